theorem dX11_row_0 : decode cX11_row 0 = .ok (.iload_n 1, 1) := by decide +kernel
theorem dX11_row_1 : decode cX11_row 1 = .ok (.invokestatic 408, 3) := by decide +kernel
theorem dX11_row_4 : decode cX11_row 4 = .ok (.ifCond .eq 18, 3) := by decide +kernel
theorem dX11_row_7 : decode cX11_row 7 = .ok (.iload_n 2, 1) := by decide +kernel
theorem dX11_row_8 : decode cX11_row 8 = .ok (.ifCond .lt 14, 3) := by decide +kernel
theorem dX11_row_11 : decode cX11_row 11 = .ok (.iload_n 2, 1) := by decide +kernel
theorem dX11_row_12 : decode cX11_row 12 = .ok (.iconst 3, 1) := by decide +kernel
theorem dX11_row_13 : decode cX11_row 13 = .ok (.if_icmp .gt 9, 3) := by decide +kernel
theorem dX11_row_16 : decode cX11_row 16 = .ok (.iload_n 3, 1) := by decide +kernel
theorem dX11_row_17 : decode cX11_row 17 = .ok (.bipush 60, 2) := by decide +kernel
theorem dX11_row_19 : decode cX11_row 19 = .ok (.if_icmp .le 6, 3) := by decide +kernel
theorem dX11_row_22 : decode cX11_row 22 = .ok (.bipush (-2), 2) := by decide +kernel
theorem dX11_row_24 : decode cX11_row 24 = .ok (.ireturn, 1) := by decide +kernel
theorem dX11_row_25 : decode cX11_row 25 = .ok (.iload_n 3, 1) := by decide +kernel
theorem dX11_row_26 : decode cX11_row 26 = .ok (.ifCond .ge 6, 3) := by decide +kernel
theorem dX11_row_29 : decode cX11_row 29 = .ok (.bipush (-3), 2) := by decide +kernel
theorem dX11_row_31 : decode cX11_row 31 = .ok (.ireturn, 1) := by decide +kernel
theorem dX11_row_32 : decode cX11_row 32 = .ok (.aload_n 0, 1) := by decide +kernel
theorem dX11_row_33 : decode cX11_row 33 = .ok (.getfield 40, 3) := by decide +kernel
theorem dX11_row_36 : decode cX11_row 36 = .ok (.iload_n 1, 1) := by decide +kernel
theorem dX11_row_37 : decode cX11_row 37 = .ok (.iload_n 2, 1) := by decide +kernel
theorem dX11_row_38 : decode cX11_row 38 = .ok (.iload_n 3, 1) := by decide +kernel
theorem dX11_row_39 : decode cX11_row 39 = .ok (.invokevirtual 411, 3) := by decide +kernel
theorem dX11_row_42 : decode cX11_row 42 = .ok (.iconst 0, 1) := by decide +kernel
theorem dX11_row_43 : decode cX11_row 43 = .ok (.ireturn, 1) := by decide +kernel
set_option maxHeartbeats 4000000 in
set_option maxRecDepth 100000 in
theorem s_X11_row (l : Launch) (dC : Nat → ClassId) (dI : Nat → Nat → Nat) (cI cZ cB cJ cM cG : ClassId) (a0 a1 a2 a3 a4 a5 a6 a7 a8 a9 a10 a36 a37 a38 a39 : Nat) (xF24 xF25 xF26 : Nat → Int32) (xG27 : Nat → Int64) (p0 p1 p2 : Int32) (sz : Nat) (p_0 : rng xF25 4 0 60) (p_1 : rng xF26 4 0 1) : Met l yX11_row (kw yX11_row cX11_row 4 (some .int)) ({ frames := 1, cells := 0, slots := 0, locals := 24 } : Room) (va_Pc [.ref a0, .int p0, .int p1, .int p2] (kPre dC dI [(cI, .int), (cZ, .boolean), (cB, .byte), (cJ, .long), (cM, .object RX2), (cG, .array .int)] [(a0, .inr (11, [.ref a1, .ref a2, .ref a3, .ref a4, .ref a5, .ref a6, .ref a7, .ref a8, .ref a9, .ref a10])), (a5, .inr (8, [.ref a36, .ref a37, .ref a38, .ref a39])), (a36, .inl (cI, 4, .inl xF24)), (a37, .inl (cI, 4, .inl xF25)), (a38, .inl (cZ, 4, .inl xF26)), (a39, .inl (cJ, 240, .inr (.inl xG27)))] sz)) (va_Qi (fun (r : Int32) (u9 : (Nat → Int32) × (Nat → Nat → Int32) × (Nat → Nat → Int64)) => ((-3 : Int) ≤ r.toInt ∧ r.toInt ≤ 0) ∧ (rng (u9.2.1 1) 4 0 60) ∧ (rng (u9.2.1 2) 4 0 1) ∧ True) (fun u9 t => va_P (dC, dI) vwCl [(a0, .inr (11, [.ref a1, .ref a2, .ref a3, .ref a4, .ref a5, .ref a6, .ref a7, .ref a8, .ref a9, .ref a10])), (a5, .inr (8, [.ref a36, .ref a37, .ref a38, .ref a39])), (a36, .inl (cI, 4, .inl (u9.2.1 0))), (a37, .inl (cI, 4, .inl (u9.2.1 1))), (a38, .inl (cZ, 4, .inl (u9.2.1 2))), (a39, .inl (cJ, 240, .inr (.inl (u9.2.2 0))))] t.heap ∧ va_D (va_A [(a0, .inr (11, [.ref a1, .ref a2, .ref a3, .ref a4, .ref a5, .ref a6, .ref a7, .ref a8, .ref a9, .ref a10])), (a5, .inr (8, [.ref a36, .ref a37, .ref a38, .ref a39])), (a36, .inl (cI, 4, .inl xF24)), (a37, .inl (cI, 4, .inl xF25)), (a38, .inl (cZ, 4, .inl xF26)), (a39, .inl (cJ, 240, .inr (.inl xG27)))] sz) [(a0, .inr (11, [.ref a1, .ref a2, .ref a3, .ref a4, .ref a5, .ref a6, .ref a7, .ref a8, .ref a9, .ref a10])), (a5, .inr (8, [.ref a36, .ref a37, .ref a38, .ref a39])), (a36, .inl (cI, 4, .inl (u9.2.1 0))), (a37, .inl (cI, 4, .inl (u9.2.1 1))), (a38, .inl (cZ, 4, .inl (u9.2.1 2))), (a39, .inl (cJ, 240, .inr (.inl (u9.2.2 0))))]) (va_A [(a0, .inr (11, [.ref a1, .ref a2, .ref a3, .ref a4, .ref a5, .ref a6, .ref a7, .ref a8, .ref a9, .ref a10])), (a5, .inr (8, [.ref a36, .ref a37, .ref a38, .ref a39])), (a36, .inl (cI, 4, .inl xF24)), (a37, .inl (cI, 4, .inl xF25)), (a38, .inl (cZ, 4, .inl xF26)), (a39, .inl (cJ, 240, .inr (.inl xG27)))] sz)) 0 0 (va_A [(a0, .inr (11, [.ref a1, .ref a2, .ref a3, .ref a4, .ref a5, .ref a6, .ref a7, .ref a8, .ref a9, .ref a10])), (a5, .inr (8, [.ref a36, .ref a37, .ref a38, .ref a39])), (a36, .inl (cI, 4, .inl xF24)), (a37, .inl (cI, 4, .inl xF25)), (a38, .inl (cZ, 4, .inl xF26)), (a39, .inl (cJ, 240, .inr (.inl xG27)))] sz) := by
  refine kEnter (by decide) (Nat.le_of_ble_eq_true rfl) ?_
  intro p e s m below meth c ls hx hb hr hml hown hlocks hin hwd hsz hP hK hD hl
  subst hsz
  generalize hAe : va_A [(a0, .inr (11, [.ref a1, .ref a2, .ref a3, .ref a4, .ref a5, .ref a6, .ref a7, .ref a8, .ref a9, .ref a10])), (a5, .inr (8, [.ref a36, .ref a37, .ref a38, .ref a39])), (a36, .inl (cI, 4, .inl xF24)), (a37, .inl (cI, 4, .inl xF25)), (a38, .inl (cZ, 4, .inl xF26)), (a39, .inl (cJ, 240, .inr (.inl xG27)))] s.heap.size = A at hD ⊢
  have hA : ∀ q : Nat, s.heap.size ≤ q → A q := fun q h => by rw [← hAe]; exact Or.inr h
  have hS : va_S A s.heap s.heap [] := va_S.rf
  have hl : lv_has ls 4 [(0, .ref a0), (1, .int p0), (2, .int p1), (3, .int p2)] := hl
  obtain ⟨Q, hQ⟩ : ∃ Q, Q = MQ below (va_Qi (fun (r : Int32) (u9 : (Nat → Int32) × (Nat → Nat → Int32) × (Nat → Nat → Int64)) => ((-3 : Int) ≤ r.toInt ∧ r.toInt ≤ 0) ∧ (rng (u9.2.1 1) 4 0 60) ∧ (rng (u9.2.1 2) 4 0 1) ∧ True) (fun u9 t => va_P (dC, dI) vwCl [(a0, .inr (11, [.ref a1, .ref a2, .ref a3, .ref a4, .ref a5, .ref a6, .ref a7, .ref a8, .ref a9, .ref a10])), (a5, .inr (8, [.ref a36, .ref a37, .ref a38, .ref a39])), (a36, .inl (cI, 4, .inl (u9.2.1 0))), (a37, .inl (cI, 4, .inl (u9.2.1 1))), (a38, .inl (cZ, 4, .inl (u9.2.1 2))), (a39, .inl (cJ, 240, .inr (.inl (u9.2.2 0))))] t.heap ∧ va_D A [(a0, .inr (11, [.ref a1, .ref a2, .ref a3, .ref a4, .ref a5, .ref a6, .ref a7, .ref a8, .ref a9, .ref a10])), (a5, .inr (8, [.ref a36, .ref a37, .ref a38, .ref a39])), (a36, .inl (cI, 4, .inl (u9.2.1 0))), (a37, .inl (cI, 4, .inl (u9.2.1 1))), (a38, .inl (cZ, 4, .inl (u9.2.1 2))), (a39, .inl (cJ, 240, .inr (.inl (u9.2.2 0))))]) A) ([.ref a0, .int p0, .int p1, .int p2] : List Value).toArray s 0 0 A := ⟨_, rfl⟩
  rw [← hQ]
  have km3 : ((-3) : Int32).toInt = -3 := by decide
  have km2 : ((-2) : Int32).toInt = -2 := by decide
  have k0 : (0 : Int32).toInt = 0 := by decide
  have k3 : (3 : Int32).toInt = 3 := by decide
  have k60 : (60 : Int32).toInt = 60 := by decide
  refine lv_iload_n hx hb dX11_row_0 rfl (lv_at hl 1 rfl) ?_
  have hPc := hP.sub (ws' := []) [] rfl
  have hDc := hD.sub (ws' := []) [] (by decide) rfl
  have hFc := va_free (wc := []) hD hS hA [] rfl
  refine va_calli (va_runS (As := [.int p0]) (rest := []) ⟨hx, hb, hml, hown, hwd⟩ (s_X11_isSlot l dC dI cI cZ cB cJ cM cG p0 s.heap.size) (cwS 1 hwd (gS kr54_5 kr54_6 kr1_2 kr54_7) rfl rfl rfl (by decide +kernel) ⟨Nat.le_of_ble_eq_true rfl, Nat.le_of_ble_eq_true rfl⟩) (kPreS hPc hK hDc) rfl rfl hl.1 rfl (lv_room (Nat.le_of_ble_eq_true rfl)) dX11_row_1 ⟨Nat.le_of_ble_eq_true rfl, Nat.le_of_ble_eq_true rfl⟩) hS (fun q _ h => hFc q h) hFc (fun r1 u2 t H1 locs ht9 hvm hw hB hz1 hk1 hS => ?_)
  obtain ⟨hw3, hw4, -⟩ := hw
  have hw3 : (0 : Int) ≤ r1.toInt ∧ r1.toInt ≤ 1 := hw3
  obtain ⟨hP1, hD1⟩ := hB
  rw [ht9] at hP1
  obtain ⟨hP, hD⟩ := va_join (wr := [(a0, .inr (11, [.ref a1, .ref a2, .ref a3, .ref a4, .ref a5, .ref a6, .ref a7, .ref a8, .ref a9, .ref a10])), (a5, .inr (8, [.ref a36, .ref a37, .ref a38, .ref a39])), (a36, .inl (cI, 4, .inl xF24)), (a37, .inl (cI, 4, .inl xF25)), (a38, .inl (cZ, 4, .inl xF26)), (a39, .inl (cJ, 240, .inr (.inl xG27)))]) (w1 := []) hP hD [] [0, 1, 2, 3, 4, 5] rfl rfl (by decide) (by decide) hk1 hFc hP1 hD1
  generalize H1 = H at hP hS ⊢
  have hP : va_P (dC, dI) vwCl [(a0, .inr (11, [.ref a1, .ref a2, .ref a3, .ref a4, .ref a5, .ref a6, .ref a7, .ref a8, .ref a9, .ref a10])), (a5, .inr (8, [.ref a36, .ref a37, .ref a38, .ref a39])), (a36, .inl (cI, 4, .inl xF24)), (a37, .inl (cI, 4, .inl xF25)), (a38, .inl (cZ, 4, .inl xF26)), (a39, .inl (cJ, 240, .inr (.inl xG27)))] H := hP
  have hD : va_D A [(a0, .inr (11, [.ref a1, .ref a2, .ref a3, .ref a4, .ref a5, .ref a6, .ref a7, .ref a8, .ref a9, .ref a10])), (a5, .inr (8, [.ref a36, .ref a37, .ref a38, .ref a39])), (a36, .inl (cI, 4, .inl xF24)), (a37, .inl (cI, 4, .inl xF25)), (a38, .inl (cZ, 4, .inl xF26)), (a39, .inl (cJ, 240, .inr (.inl xG27)))] := hD
  refine lv_if_eq (tgt := 22) hx hb dX11_row_4 (by decide) (fun c5 => ?_) (fun c5 => ?_)
  · rw [ki_eq] at c5
    refine lv_bipush (v := (-2)) hx hb dX11_row_22 (by decide) ?_
    have hP9 := hP.sub (ws' := [(a0, .inr (11, [.ref a1, .ref a2, .ref a3, .ref a4, .ref a5, .ref a6, .ref a7, .ref a8, .ref a9, .ref a10])), (a5, .inr (8, [.ref a36, .ref a37, .ref a38, .ref a39])), (a36, .inl (cI, 4, .inl xF24)), (a37, .inl (cI, 4, .inl xF25)), (a38, .inl (cZ, 4, .inl xF26)), (a39, .inl (cJ, 240, .inr (.inl xG27)))]) [0, 1, 2, 3, 4, 5] rfl
    have hD9 := hD.sub (ws' := [(a0, .inr (11, [.ref a1, .ref a2, .ref a3, .ref a4, .ref a5, .ref a6, .ref a7, .ref a8, .ref a9, .ref a10])), (a5, .inr (8, [.ref a36, .ref a37, .ref a38, .ref a39])), (a36, .inl (cI, 4, .inl xF24)), (a37, .inl (cI, 4, .inl xF25)), (a38, .inl (cZ, 4, .inl xF26)), (a39, .inl (cJ, 240, .inr (.inl xG27)))]) [0, 1, 2, 3, 4, 5] (by decide) rfl
    rw [hQ]
    exact W.iret (v := (-2)) hx hb hr (fun t ht hW => ⟨⟨(-2), (pickG 0 [], pickG (fun _ => 0) [xF24, xF25, xF26], pickG (fun _ => 0) [xG27]), rfl, ⟨(show (-3 : Int) ≤ ((-2) : Int32).toInt ∧ ((-2) : Int32).toInt ≤ 0 from ⟨by omega, by omega⟩), (show rng xF25 4 0 60 from p_0), (show rng xF26 4 0 1 from p_1), trivial⟩, (by rw [ht]; exact hP9), hD9⟩, hS.F ht⟩) hS.2.2 dX11_row_24
  · rw [ki_eq] at c5
    have hw4q := hw4 (by omega)
    clear hw4
    refine lv_iload_n hx hb dX11_row_7 rfl (lv_at hl 2 rfl) ?_
    refine lv_if_lt (tgt := 22) hx hb dX11_row_8 (by decide) (fun c6 => ?_) (fun c6 => ?_)
    · rw [ki_lt] at c6
      refine lv_bipush (v := (-2)) hx hb dX11_row_22 (by decide) ?_
      have hP9 := hP.sub (ws' := [(a0, .inr (11, [.ref a1, .ref a2, .ref a3, .ref a4, .ref a5, .ref a6, .ref a7, .ref a8, .ref a9, .ref a10])), (a5, .inr (8, [.ref a36, .ref a37, .ref a38, .ref a39])), (a36, .inl (cI, 4, .inl xF24)), (a37, .inl (cI, 4, .inl xF25)), (a38, .inl (cZ, 4, .inl xF26)), (a39, .inl (cJ, 240, .inr (.inl xG27)))]) [0, 1, 2, 3, 4, 5] rfl
      have hD9 := hD.sub (ws' := [(a0, .inr (11, [.ref a1, .ref a2, .ref a3, .ref a4, .ref a5, .ref a6, .ref a7, .ref a8, .ref a9, .ref a10])), (a5, .inr (8, [.ref a36, .ref a37, .ref a38, .ref a39])), (a36, .inl (cI, 4, .inl xF24)), (a37, .inl (cI, 4, .inl xF25)), (a38, .inl (cZ, 4, .inl xF26)), (a39, .inl (cJ, 240, .inr (.inl xG27)))]) [0, 1, 2, 3, 4, 5] (by decide) rfl
      rw [hQ]
      exact W.iret (v := (-2)) hx hb hr (fun t ht hW => ⟨⟨(-2), (pickG 0 [], pickG (fun _ => 0) [xF24, xF25, xF26], pickG (fun _ => 0) [xG27]), rfl, ⟨(show (-3 : Int) ≤ ((-2) : Int32).toInt ∧ ((-2) : Int32).toInt ≤ 0 from ⟨by omega, by omega⟩), (show rng xF25 4 0 60 from p_0), (show rng xF26 4 0 1 from p_1), trivial⟩, (by rw [ht]; exact hP9), hD9⟩, hS.F ht⟩) hS.2.2 dX11_row_24
    · rw [ki_lt] at c6
      refine lv_iload_n hx hb dX11_row_11 rfl (lv_at hl 2 rfl) ?_
      refine lv_iconst (v := 3) hx hb dX11_row_12 (by decide) ?_
      refine lv_icmp_gt (tgt := 22) hx hb dX11_row_13 (by decide) (fun c7 => ?_) (fun c7 => ?_)
      · rw [ki_lt] at c7
        refine lv_bipush (v := (-2)) hx hb dX11_row_22 (by decide) ?_
        have hP9 := hP.sub (ws' := [(a0, .inr (11, [.ref a1, .ref a2, .ref a3, .ref a4, .ref a5, .ref a6, .ref a7, .ref a8, .ref a9, .ref a10])), (a5, .inr (8, [.ref a36, .ref a37, .ref a38, .ref a39])), (a36, .inl (cI, 4, .inl xF24)), (a37, .inl (cI, 4, .inl xF25)), (a38, .inl (cZ, 4, .inl xF26)), (a39, .inl (cJ, 240, .inr (.inl xG27)))]) [0, 1, 2, 3, 4, 5] rfl
        have hD9 := hD.sub (ws' := [(a0, .inr (11, [.ref a1, .ref a2, .ref a3, .ref a4, .ref a5, .ref a6, .ref a7, .ref a8, .ref a9, .ref a10])), (a5, .inr (8, [.ref a36, .ref a37, .ref a38, .ref a39])), (a36, .inl (cI, 4, .inl xF24)), (a37, .inl (cI, 4, .inl xF25)), (a38, .inl (cZ, 4, .inl xF26)), (a39, .inl (cJ, 240, .inr (.inl xG27)))]) [0, 1, 2, 3, 4, 5] (by decide) rfl
        rw [hQ]
        exact W.iret (v := (-2)) hx hb hr (fun t ht hW => ⟨⟨(-2), (pickG 0 [], pickG (fun _ => 0) [xF24, xF25, xF26], pickG (fun _ => 0) [xG27]), rfl, ⟨(show (-3 : Int) ≤ ((-2) : Int32).toInt ∧ ((-2) : Int32).toInt ≤ 0 from ⟨by omega, by omega⟩), (show rng xF25 4 0 60 from p_0), (show rng xF26 4 0 1 from p_1), trivial⟩, (by rw [ht]; exact hP9), hD9⟩, hS.F ht⟩) hS.2.2 dX11_row_24
      · rw [ki_lt] at c7
        refine lv_iload_n hx hb dX11_row_16 rfl (lv_at hl 3 rfl) ?_
        refine lv_bipush (v := 60) hx hb dX11_row_17 (by decide) ?_
        refine lv_icmp_le (tgt := 25) hx hb dX11_row_19 (by decide) (fun c8 => ?_) (fun c8 => ?_)
        · rw [ki_le] at c8
          refine lv_iload_n hx hb dX11_row_25 rfl (lv_at hl 3 rfl) ?_
          refine lv_if_ge (tgt := 32) hx hb dX11_row_26 (by decide) (fun c9 => ?_) (fun c9 => ?_)
          · rw [ki_le] at c9
            refine lv_aload_n hx hb dX11_row_32 rfl (lv_at hl 0 rfl) ?_
            refine va_get (D := (dC, dI)) (ci := 11) (v := .ref a5) (C := RX11) (T := TX11) (N := 10) hx hb hwd inlX11 hown hK hP 0 rfl rfl 4 (by decide) (hwd _ kr2_8) (fun _ h9 => h9) rfl dX11_row_33 ?_
            refine lv_iload_n hx hb dX11_row_36 rfl (lv_at hl 1 rfl) ?_
            refine lv_iload_n hx hb dX11_row_37 rfl (lv_at hl 2 rfl) ?_
            refine lv_iload_n hx hb dX11_row_38 rfl (lv_at hl 3 rfl) ?_
            have hPc := hP.sub (ws' := [(a5, .inr (8, [.ref a36, .ref a37, .ref a38, .ref a39])), (a36, .inl (cI, 4, .inl xF24)), (a37, .inl (cI, 4, .inl xF25)), (a38, .inl (cZ, 4, .inl xF26)), (a39, .inl (cJ, 240, .inr (.inl xG27)))]) [1, 2, 3, 4, 5] rfl
            have hDc := hD.sub (ws' := [(a5, .inr (8, [.ref a36, .ref a37, .ref a38, .ref a39])), (a36, .inl (cI, 4, .inl xF24)), (a37, .inl (cI, 4, .inl xF25)), (a38, .inl (cZ, 4, .inl xF26)), (a39, .inl (cJ, 240, .inr (.inl xG27)))]) [1, 2, 3, 4, 5] (by decide) rfl
            have hFc := va_free (wc := [(a5, .inr (8, [.ref a36, .ref a37, .ref a38, .ref a39])), (a36, .inl (cI, 4, .inl xF24)), (a37, .inl (cI, 4, .inl xF25)), (a38, .inl (cZ, 4, .inl xF26)), (a39, .inl (cJ, 240, .inr (.inl xG27)))]) hD hS hA [1, 2, 3, 4, 5] rfl
            refine va_callv (va_runV (As := [.int p0, .int p1, .int p2]) (rest := []) ⟨hx, hb, hml, hown, hwd⟩ (s_X8_makeRow l dC dI cI cZ cB cJ cM cG a5 a36 a37 a38 a39 xF24 xF25 xF26 xG27 p0 p1 p2 H.size (show rng xF25 4 0 60 from p_0) (show rng xF26 4 0 1 from p_1) (show (0 : Int) ≤ p0.toInt ∧ p0.toInt ≤ 3 from ⟨by omega, by omega⟩) (show (0 : Int) ≤ p2.toInt ∧ p2.toInt ≤ 60 from ⟨by omega, by omega⟩)) (cwV 3 hwd (gV kr67_4 kr67_5 kr67_6 kr2_7 kr67_7) rfl rfl rfl (by decide +kernel) ⟨Nat.le_of_ble_eq_true rfl, Nat.le_of_ble_eq_true rfl⟩) (kPreV hPc hK hDc (ci := 8) (q0 := 0) rfl rfl) rfl rfl hl.1 rfl (lv_room (Nat.le_of_ble_eq_true rfl)) dX11_row_39 ⟨Nat.le_of_ble_eq_true rfl, Nat.le_of_ble_eq_true rfl⟩) hS (fun q _ h => hFc q h) hFc (fun u11 t H1 locs ht9 hvm hw hB hz1 hk1 hS => ?_)
            obtain ⟨u12, U12, V12⟩ := u11
            obtain ⟨hw13, hw14, -⟩ := hw
            have hw13 : rng (U12 1) 4 0 60 := hw13
            have hw14 : rng (U12 2) 4 0 1 := hw14
            obtain ⟨hP1, hD1⟩ := hB
            rw [ht9] at hP1
            obtain ⟨hP, hD⟩ := va_join (wr := [(a0, .inr (11, [.ref a1, .ref a2, .ref a3, .ref a4, .ref a5, .ref a6, .ref a7, .ref a8, .ref a9, .ref a10]))]) (w1 := [(a5, .inr (8, [.ref a36, .ref a37, .ref a38, .ref a39])), (a36, .inl (cI, 4, .inl (U12 0))), (a37, .inl (cI, 4, .inl (U12 1))), (a38, .inl (cZ, 4, .inl (U12 2))), (a39, .inl (cJ, 240, .inr (.inl (V12 0))))]) hP hD [1, 2, 3, 4, 5] [0] rfl rfl (by decide) (by decide) hk1 hFc hP1 hD1
            generalize H1 = H at hP hS ⊢
            have hP : va_P (dC, dI) vwCl [(a0, .inr (11, [.ref a1, .ref a2, .ref a3, .ref a4, .ref a5, .ref a6, .ref a7, .ref a8, .ref a9, .ref a10])), (a5, .inr (8, [.ref a36, .ref a37, .ref a38, .ref a39])), (a36, .inl (cI, 4, .inl (U12 0))), (a37, .inl (cI, 4, .inl (U12 1))), (a38, .inl (cZ, 4, .inl (U12 2))), (a39, .inl (cJ, 240, .inr (.inl (V12 0))))] H := hP
            have hD : va_D A [(a0, .inr (11, [.ref a1, .ref a2, .ref a3, .ref a4, .ref a5, .ref a6, .ref a7, .ref a8, .ref a9, .ref a10])), (a5, .inr (8, [.ref a36, .ref a37, .ref a38, .ref a39])), (a36, .inl (cI, 4, .inl (U12 0))), (a37, .inl (cI, 4, .inl (U12 1))), (a38, .inl (cZ, 4, .inl (U12 2))), (a39, .inl (cJ, 240, .inr (.inl (V12 0))))] := hD
            refine lv_iconst (v := 0) hx hb dX11_row_42 (by decide) ?_
            have hP9 := hP.sub (ws' := [(a0, .inr (11, [.ref a1, .ref a2, .ref a3, .ref a4, .ref a5, .ref a6, .ref a7, .ref a8, .ref a9, .ref a10])), (a5, .inr (8, [.ref a36, .ref a37, .ref a38, .ref a39])), (a36, .inl (cI, 4, .inl (U12 0))), (a37, .inl (cI, 4, .inl (U12 1))), (a38, .inl (cZ, 4, .inl (U12 2))), (a39, .inl (cJ, 240, .inr (.inl (V12 0))))]) [0, 1, 2, 3, 4, 5] rfl
            have hD9 := hD.sub (ws' := [(a0, .inr (11, [.ref a1, .ref a2, .ref a3, .ref a4, .ref a5, .ref a6, .ref a7, .ref a8, .ref a9, .ref a10])), (a5, .inr (8, [.ref a36, .ref a37, .ref a38, .ref a39])), (a36, .inl (cI, 4, .inl (U12 0))), (a37, .inl (cI, 4, .inl (U12 1))), (a38, .inl (cZ, 4, .inl (U12 2))), (a39, .inl (cJ, 240, .inr (.inl (V12 0))))]) [0, 1, 2, 3, 4, 5] (by decide) rfl
            rw [hQ]
            exact W.iret (v := 0) hx hb hr (fun t ht hW => ⟨⟨0, (pickG 0 [], pickG (fun _ => 0) [(U12 0), (U12 1), (U12 2)], pickG (fun _ => 0) [(V12 0)]), rfl, ⟨(show (-3 : Int) ≤ (0 : Int32).toInt ∧ (0 : Int32).toInt ≤ 0 from ⟨by omega, by omega⟩), (show rng (U12 1) 4 0 60 from hw13), (show rng (U12 2) 4 0 1 from hw14), trivial⟩, (by rw [ht]; exact hP9), hD9⟩, hS.F ht⟩) hS.2.2 dX11_row_43
          · rw [ki_le] at c9
            refine lv_bipush (v := (-3)) hx hb dX11_row_29 (by decide) ?_
            have hP9 := hP.sub (ws' := [(a0, .inr (11, [.ref a1, .ref a2, .ref a3, .ref a4, .ref a5, .ref a6, .ref a7, .ref a8, .ref a9, .ref a10])), (a5, .inr (8, [.ref a36, .ref a37, .ref a38, .ref a39])), (a36, .inl (cI, 4, .inl xF24)), (a37, .inl (cI, 4, .inl xF25)), (a38, .inl (cZ, 4, .inl xF26)), (a39, .inl (cJ, 240, .inr (.inl xG27)))]) [0, 1, 2, 3, 4, 5] rfl
            have hD9 := hD.sub (ws' := [(a0, .inr (11, [.ref a1, .ref a2, .ref a3, .ref a4, .ref a5, .ref a6, .ref a7, .ref a8, .ref a9, .ref a10])), (a5, .inr (8, [.ref a36, .ref a37, .ref a38, .ref a39])), (a36, .inl (cI, 4, .inl xF24)), (a37, .inl (cI, 4, .inl xF25)), (a38, .inl (cZ, 4, .inl xF26)), (a39, .inl (cJ, 240, .inr (.inl xG27)))]) [0, 1, 2, 3, 4, 5] (by decide) rfl
            rw [hQ]
            exact W.iret (v := (-3)) hx hb hr (fun t ht hW => ⟨⟨(-3), (pickG 0 [], pickG (fun _ => 0) [xF24, xF25, xF26], pickG (fun _ => 0) [xG27]), rfl, ⟨(show (-3 : Int) ≤ ((-3) : Int32).toInt ∧ ((-3) : Int32).toInt ≤ 0 from ⟨by omega, by omega⟩), (show rng xF25 4 0 60 from p_0), (show rng xF26 4 0 1 from p_1), trivial⟩, (by rw [ht]; exact hP9), hD9⟩, hS.F ht⟩) hS.2.2 dX11_row_31
        · rw [ki_le] at c8
          refine lv_bipush (v := (-2)) hx hb dX11_row_22 (by decide) ?_
          have hP9 := hP.sub (ws' := [(a0, .inr (11, [.ref a1, .ref a2, .ref a3, .ref a4, .ref a5, .ref a6, .ref a7, .ref a8, .ref a9, .ref a10])), (a5, .inr (8, [.ref a36, .ref a37, .ref a38, .ref a39])), (a36, .inl (cI, 4, .inl xF24)), (a37, .inl (cI, 4, .inl xF25)), (a38, .inl (cZ, 4, .inl xF26)), (a39, .inl (cJ, 240, .inr (.inl xG27)))]) [0, 1, 2, 3, 4, 5] rfl
          have hD9 := hD.sub (ws' := [(a0, .inr (11, [.ref a1, .ref a2, .ref a3, .ref a4, .ref a5, .ref a6, .ref a7, .ref a8, .ref a9, .ref a10])), (a5, .inr (8, [.ref a36, .ref a37, .ref a38, .ref a39])), (a36, .inl (cI, 4, .inl xF24)), (a37, .inl (cI, 4, .inl xF25)), (a38, .inl (cZ, 4, .inl xF26)), (a39, .inl (cJ, 240, .inr (.inl xG27)))]) [0, 1, 2, 3, 4, 5] (by decide) rfl
          rw [hQ]
          exact W.iret (v := (-2)) hx hb hr (fun t ht hW => ⟨⟨(-2), (pickG 0 [], pickG (fun _ => 0) [xF24, xF25, xF26], pickG (fun _ => 0) [xG27]), rfl, ⟨(show (-3 : Int) ≤ ((-2) : Int32).toInt ∧ ((-2) : Int32).toInt ≤ 0 from ⟨by omega, by omega⟩), (show rng xF25 4 0 60 from p_0), (show rng xF26 4 0 1 from p_1), trivial⟩, (by rw [ht]; exact hP9), hD9⟩, hS.F ht⟩) hS.2.2 dX11_row_24
theorem dX11_write_0 : decode cX11_write 0 = .ok (.iload_n 1, 1) := by decide +kernel
theorem dX11_write_1 : decode cX11_write 1 = .ok (.invokestatic 408, 3) := by decide +kernel
theorem dX11_write_4 : decode cX11_write 4 = .ok (.ifCond .ne 6, 3) := by decide +kernel
theorem dX11_write_7 : decode cX11_write 7 = .ok (.bipush (-2), 2) := by decide +kernel
theorem dX11_write_9 : decode cX11_write 9 = .ok (.ireturn, 1) := by decide +kernel
theorem dX11_write_10 : decode cX11_write 10 = .ok (.aload_n 0, 1) := by decide +kernel
theorem dX11_write_11 : decode cX11_write 11 = .ok (.getfield 40, 3) := by decide +kernel
theorem dX11_write_14 : decode cX11_write 14 = .ok (.iload_n 1, 1) := by decide +kernel
theorem dX11_write_15 : decode cX11_write 15 = .ok (.invokevirtual 415, 3) := by decide +kernel
theorem dX11_write_18 : decode cX11_write 18 = .ok (.ifCond .ne 6, 3) := by decide +kernel
theorem dX11_write_21 : decode cX11_write 21 = .ok (.bipush (-6), 2) := by decide +kernel
theorem dX11_write_23 : decode cX11_write 23 = .ok (.ireturn, 1) := by decide +kernel
theorem dX11_write_24 : decode cX11_write 24 = .ok (.iload_n 2, 1) := by decide +kernel
theorem dX11_write_25 : decode cX11_write 25 = .ok (.ifCond .lt 16, 3) := by decide +kernel
theorem dX11_write_28 : decode cX11_write 28 = .ok (.iload_n 2, 1) := by decide +kernel
theorem dX11_write_29 : decode cX11_write 29 = .ok (.aload_n 0, 1) := by decide +kernel
theorem dX11_write_30 : decode cX11_write 30 = .ok (.getfield 40, 3) := by decide +kernel
theorem dX11_write_33 : decode cX11_write 33 = .ok (.getfield 418, 3) := by decide +kernel
theorem dX11_write_36 : decode cX11_write 36 = .ok (.iload_n 1, 1) := by decide +kernel
theorem dX11_write_37 : decode cX11_write 37 = .ok (.iaload, 1) := by decide +kernel
theorem dX11_write_38 : decode cX11_write 38 = .ok (.if_icmp .lt 6, 3) := by decide +kernel
theorem dX11_write_41 : decode cX11_write 41 = .ok (.bipush (-7), 2) := by decide +kernel
theorem dX11_write_43 : decode cX11_write 43 = .ok (.ireturn, 1) := by decide +kernel
theorem dX11_write_44 : decode cX11_write 44 = .ok (.aload_n 0, 1) := by decide +kernel
theorem dX11_write_45 : decode cX11_write 45 = .ok (.getfield 40, 3) := by decide +kernel
theorem dX11_write_48 : decode cX11_write 48 = .ok (.iload_n 1, 1) := by decide +kernel
theorem dX11_write_49 : decode cX11_write 49 = .ok (.iload_n 2, 1) := by decide +kernel
theorem dX11_write_50 : decode cX11_write 50 = .ok (.lload_n 3, 1) := by decide +kernel
theorem dX11_write_51 : decode cX11_write 51 = .ok (.invokevirtual 420, 3) := by decide +kernel
theorem dX11_write_54 : decode cX11_write 54 = .ok (.iconst 0, 1) := by decide +kernel
theorem dX11_write_55 : decode cX11_write 55 = .ok (.ireturn, 1) := by decide +kernel
set_option maxHeartbeats 4000000 in
set_option maxRecDepth 100000 in
theorem s_X11_write (l : Launch) (dC : Nat → ClassId) (dI : Nat → Nat → Nat) (cI cZ cB cJ cM cG : ClassId) (a0 a1 a2 a3 a4 a5 a6 a7 a8 a9 a10 a36 a37 a38 a39 : Nat) (xF24 xF25 xF26 : Nat → Int32) (xG27 : Nat → Int64) (p0 p1 : Int32) (y2 : Int64) (sz : Nat) (p_0 : rng xF25 4 0 60) (p_1 : rng xF26 4 0 1) : Met l yX11_write (kw yX11_write cX11_write 5 (some .int)) ({ frames := 2, cells := 0, slots := 0, locals := 46 } : Room) (va_Pc [.ref a0, .int p0, .int p1, .long y2] (kPre dC dI [(cI, .int), (cZ, .boolean), (cB, .byte), (cJ, .long), (cM, .object RX2), (cG, .array .int)] [(a0, .inr (11, [.ref a1, .ref a2, .ref a3, .ref a4, .ref a5, .ref a6, .ref a7, .ref a8, .ref a9, .ref a10])), (a5, .inr (8, [.ref a36, .ref a37, .ref a38, .ref a39])), (a36, .inl (cI, 4, .inl xF24)), (a37, .inl (cI, 4, .inl xF25)), (a38, .inl (cZ, 4, .inl xF26)), (a39, .inl (cJ, 240, .inr (.inl xG27)))] sz)) (va_Qi (fun (r : Int32) (u9 : (Nat → Int32) × (Nat → Nat → Int32) × (Nat → Nat → Int64)) => ((-7 : Int) ≤ r.toInt ∧ r.toInt ≤ 0) ∧ True) (fun u9 t => va_P (dC, dI) vwCl [(a0, .inr (11, [.ref a1, .ref a2, .ref a3, .ref a4, .ref a5, .ref a6, .ref a7, .ref a8, .ref a9, .ref a10])), (a5, .inr (8, [.ref a36, .ref a37, .ref a38, .ref a39])), (a36, .inl (cI, 4, .inl xF24)), (a37, .inl (cI, 4, .inl xF25)), (a38, .inl (cZ, 4, .inl xF26)), (a39, .inl (cJ, 240, .inr (.inl (u9.2.2 0))))] t.heap ∧ va_D (va_A [(a0, .inr (11, [.ref a1, .ref a2, .ref a3, .ref a4, .ref a5, .ref a6, .ref a7, .ref a8, .ref a9, .ref a10])), (a5, .inr (8, [.ref a36, .ref a37, .ref a38, .ref a39])), (a36, .inl (cI, 4, .inl xF24)), (a37, .inl (cI, 4, .inl xF25)), (a38, .inl (cZ, 4, .inl xF26)), (a39, .inl (cJ, 240, .inr (.inl xG27)))] sz) [(a0, .inr (11, [.ref a1, .ref a2, .ref a3, .ref a4, .ref a5, .ref a6, .ref a7, .ref a8, .ref a9, .ref a10])), (a5, .inr (8, [.ref a36, .ref a37, .ref a38, .ref a39])), (a36, .inl (cI, 4, .inl xF24)), (a37, .inl (cI, 4, .inl xF25)), (a38, .inl (cZ, 4, .inl xF26)), (a39, .inl (cJ, 240, .inr (.inl (u9.2.2 0))))]) (va_A [(a0, .inr (11, [.ref a1, .ref a2, .ref a3, .ref a4, .ref a5, .ref a6, .ref a7, .ref a8, .ref a9, .ref a10])), (a5, .inr (8, [.ref a36, .ref a37, .ref a38, .ref a39])), (a36, .inl (cI, 4, .inl xF24)), (a37, .inl (cI, 4, .inl xF25)), (a38, .inl (cZ, 4, .inl xF26)), (a39, .inl (cJ, 240, .inr (.inl xG27)))] sz)) 0 0 (va_A [(a0, .inr (11, [.ref a1, .ref a2, .ref a3, .ref a4, .ref a5, .ref a6, .ref a7, .ref a8, .ref a9, .ref a10])), (a5, .inr (8, [.ref a36, .ref a37, .ref a38, .ref a39])), (a36, .inl (cI, 4, .inl xF24)), (a37, .inl (cI, 4, .inl xF25)), (a38, .inl (cZ, 4, .inl xF26)), (a39, .inl (cJ, 240, .inr (.inl xG27)))] sz) := by
  refine kEnter (by decide) (Nat.le_of_ble_eq_true rfl) ?_
  intro p e s m below meth c ls hx hb hr hml hown hlocks hin hwd hsz hP hK hD hl
  subst hsz
  generalize hAe : va_A [(a0, .inr (11, [.ref a1, .ref a2, .ref a3, .ref a4, .ref a5, .ref a6, .ref a7, .ref a8, .ref a9, .ref a10])), (a5, .inr (8, [.ref a36, .ref a37, .ref a38, .ref a39])), (a36, .inl (cI, 4, .inl xF24)), (a37, .inl (cI, 4, .inl xF25)), (a38, .inl (cZ, 4, .inl xF26)), (a39, .inl (cJ, 240, .inr (.inl xG27)))] s.heap.size = A at hD ⊢
  have hA : ∀ q : Nat, s.heap.size ≤ q → A q := fun q h => by rw [← hAe]; exact Or.inr h
  have hS : va_S A s.heap s.heap [] := va_S.rf
  have hl : lv_has ls 5 [(0, .ref a0), (1, .int p0), (2, .int p1), (3, .long y2)] := hl
  obtain ⟨Q, hQ⟩ : ∃ Q, Q = MQ below (va_Qi (fun (r : Int32) (u9 : (Nat → Int32) × (Nat → Nat → Int32) × (Nat → Nat → Int64)) => ((-7 : Int) ≤ r.toInt ∧ r.toInt ≤ 0) ∧ True) (fun u9 t => va_P (dC, dI) vwCl [(a0, .inr (11, [.ref a1, .ref a2, .ref a3, .ref a4, .ref a5, .ref a6, .ref a7, .ref a8, .ref a9, .ref a10])), (a5, .inr (8, [.ref a36, .ref a37, .ref a38, .ref a39])), (a36, .inl (cI, 4, .inl xF24)), (a37, .inl (cI, 4, .inl xF25)), (a38, .inl (cZ, 4, .inl xF26)), (a39, .inl (cJ, 240, .inr (.inl (u9.2.2 0))))] t.heap ∧ va_D A [(a0, .inr (11, [.ref a1, .ref a2, .ref a3, .ref a4, .ref a5, .ref a6, .ref a7, .ref a8, .ref a9, .ref a10])), (a5, .inr (8, [.ref a36, .ref a37, .ref a38, .ref a39])), (a36, .inl (cI, 4, .inl xF24)), (a37, .inl (cI, 4, .inl xF25)), (a38, .inl (cZ, 4, .inl xF26)), (a39, .inl (cJ, 240, .inr (.inl (u9.2.2 0))))]) A) ([.ref a0, .int p0, .int p1, .long y2] : List Value).toArray s 0 0 A := ⟨_, rfl⟩
  rw [← hQ]
  have km7 : ((-7) : Int32).toInt = -7 := by decide
  have km6 : ((-6) : Int32).toInt = -6 := by decide
  have km2 : ((-2) : Int32).toInt = -2 := by decide
  have k0 : (0 : Int32).toInt = 0 := by decide
  have k3 : (3 : Int32).toInt = 3 := by decide
  refine lv_iload_n hx hb dX11_write_0 rfl (lv_at hl 1 rfl) ?_
  have hPc := hP.sub (ws' := []) [] rfl
  have hDc := hD.sub (ws' := []) [] (by decide) rfl
  have hFc := va_free (wc := []) hD hS hA [] rfl
  refine va_calli (va_runS (As := [.int p0]) (rest := []) ⟨hx, hb, hml, hown, hwd⟩ (s_X11_isSlot l dC dI cI cZ cB cJ cM cG p0 s.heap.size) (cwS 1 hwd (gS kr54_5 kr54_6 kr1_2 kr54_7) rfl rfl rfl (by decide +kernel) ⟨Nat.le_of_ble_eq_true rfl, Nat.le_of_ble_eq_true rfl⟩) (kPreS hPc hK hDc) rfl rfl hl.1 rfl (lv_room (Nat.le_of_ble_eq_true rfl)) dX11_write_1 ⟨Nat.le_of_ble_eq_true rfl, Nat.le_of_ble_eq_true rfl⟩) hS (fun q _ h => hFc q h) hFc (fun r1 u2 t H1 locs ht9 hvm hw hB hz1 hk1 hS => ?_)
  obtain ⟨hw3, hw4, -⟩ := hw
  have hw3 : (0 : Int) ≤ r1.toInt ∧ r1.toInt ≤ 1 := hw3
  obtain ⟨hP1, hD1⟩ := hB
  rw [ht9] at hP1
  obtain ⟨hP, hD⟩ := va_join (wr := [(a0, .inr (11, [.ref a1, .ref a2, .ref a3, .ref a4, .ref a5, .ref a6, .ref a7, .ref a8, .ref a9, .ref a10])), (a5, .inr (8, [.ref a36, .ref a37, .ref a38, .ref a39])), (a36, .inl (cI, 4, .inl xF24)), (a37, .inl (cI, 4, .inl xF25)), (a38, .inl (cZ, 4, .inl xF26)), (a39, .inl (cJ, 240, .inr (.inl xG27)))]) (w1 := []) hP hD [] [0, 1, 2, 3, 4, 5] rfl rfl (by decide) (by decide) hk1 hFc hP1 hD1
  generalize H1 = H at hP hS ⊢
  have hP : va_P (dC, dI) vwCl [(a0, .inr (11, [.ref a1, .ref a2, .ref a3, .ref a4, .ref a5, .ref a6, .ref a7, .ref a8, .ref a9, .ref a10])), (a5, .inr (8, [.ref a36, .ref a37, .ref a38, .ref a39])), (a36, .inl (cI, 4, .inl xF24)), (a37, .inl (cI, 4, .inl xF25)), (a38, .inl (cZ, 4, .inl xF26)), (a39, .inl (cJ, 240, .inr (.inl xG27)))] H := hP
  have hD : va_D A [(a0, .inr (11, [.ref a1, .ref a2, .ref a3, .ref a4, .ref a5, .ref a6, .ref a7, .ref a8, .ref a9, .ref a10])), (a5, .inr (8, [.ref a36, .ref a37, .ref a38, .ref a39])), (a36, .inl (cI, 4, .inl xF24)), (a37, .inl (cI, 4, .inl xF25)), (a38, .inl (cZ, 4, .inl xF26)), (a39, .inl (cJ, 240, .inr (.inl xG27)))] := hD
  refine lv_if_ne (tgt := 10) hx hb dX11_write_4 (by decide) (fun c5 => ?_) (fun c5 => ?_)
  · rw [ki_eq] at c5
    have hw4q := hw4 (by omega)
    clear hw4
    refine lv_aload_n hx hb dX11_write_10 rfl (lv_at hl 0 rfl) ?_
    refine va_get (D := (dC, dI)) (ci := 11) (v := .ref a5) (C := RX11) (T := TX11) (N := 10) hx hb hwd inlX11 hown hK hP 0 rfl rfl 4 (by decide) (hwd _ kr2_8) (fun _ h9 => h9) rfl dX11_write_11 ?_
    refine lv_iload_n hx hb dX11_write_14 rfl (lv_at hl 1 rfl) ?_
    have hPc := hP.sub (ws' := [(a5, .inr (8, [.ref a36, .ref a37, .ref a38, .ref a39])), (a38, .inl (cZ, 4, .inl xF26))]) [1, 4] rfl
    have hDc := hD.sub (ws' := [(a5, .inr (8, [.ref a36, .ref a37, .ref a38, .ref a39])), (a38, .inl (cZ, 4, .inl xF26))]) [1, 4] (by decide) rfl
    have hFc := va_free (wc := [(a5, .inr (8, [.ref a36, .ref a37, .ref a38, .ref a39])), (a38, .inl (cZ, 4, .inl xF26))]) hD hS hA [1, 4] rfl
    refine va_calli (va_runV (As := [.int p0]) (rest := []) ⟨hx, hb, hml, hown, hwd⟩ (s_X8_hasRow l dC dI cI cZ cB cJ cM cG a5 a36 a37 a38 a39 xF26 p0 H.size (show rng xF26 4 0 1 from p_1) (show (0 : Int) ≤ p0.toInt ∧ p0.toInt ≤ 3 from ⟨by omega, by omega⟩)) (cwV 1 hwd (gV kr54_8 kr54_9 kr54_10 kr2_7 kr54_11) rfl rfl rfl (by decide +kernel) ⟨Nat.le_of_ble_eq_true rfl, Nat.le_of_ble_eq_true rfl⟩) (kPreV hPc hK hDc (ci := 8) (q0 := 0) rfl rfl) rfl rfl hl.1 rfl (lv_room (Nat.le_of_ble_eq_true rfl)) dX11_write_15 ⟨Nat.le_of_ble_eq_true rfl, Nat.le_of_ble_eq_true rfl⟩) hS (fun q _ h => hFc q h) hFc (fun r6 u7 t H1 locs ht9 hvm hw hB hz1 hk1 hS => ?_)
    obtain ⟨hw8, -⟩ := hw
    have hw8 : (0 : Int) ≤ r6.toInt ∧ r6.toInt ≤ 1 := hw8
    obtain ⟨hP1, hD1⟩ := hB
    rw [ht9] at hP1
    obtain ⟨hP, hD⟩ := va_join (wr := [(a0, .inr (11, [.ref a1, .ref a2, .ref a3, .ref a4, .ref a5, .ref a6, .ref a7, .ref a8, .ref a9, .ref a10])), (a36, .inl (cI, 4, .inl xF24)), (a37, .inl (cI, 4, .inl xF25)), (a39, .inl (cJ, 240, .inr (.inl xG27)))]) (w1 := [(a5, .inr (8, [.ref a36, .ref a37, .ref a38, .ref a39])), (a38, .inl (cZ, 4, .inl xF26))]) hP hD [1, 4] [0, 2, 3, 5] rfl rfl (by decide) (by decide) hk1 hFc hP1 hD1
    generalize H1 = H at hP hS ⊢
    have hP : va_P (dC, dI) vwCl [(a0, .inr (11, [.ref a1, .ref a2, .ref a3, .ref a4, .ref a5, .ref a6, .ref a7, .ref a8, .ref a9, .ref a10])), (a36, .inl (cI, 4, .inl xF24)), (a37, .inl (cI, 4, .inl xF25)), (a39, .inl (cJ, 240, .inr (.inl xG27))), (a5, .inr (8, [.ref a36, .ref a37, .ref a38, .ref a39])), (a38, .inl (cZ, 4, .inl xF26))] H := hP
    have hD : va_D A [(a0, .inr (11, [.ref a1, .ref a2, .ref a3, .ref a4, .ref a5, .ref a6, .ref a7, .ref a8, .ref a9, .ref a10])), (a36, .inl (cI, 4, .inl xF24)), (a37, .inl (cI, 4, .inl xF25)), (a39, .inl (cJ, 240, .inr (.inl xG27))), (a5, .inr (8, [.ref a36, .ref a37, .ref a38, .ref a39])), (a38, .inl (cZ, 4, .inl xF26))] := hD
    refine lv_if_ne (tgt := 24) hx hb dX11_write_18 (by decide) (fun c9 => ?_) (fun c9 => ?_)
    · rw [ki_eq] at c9
      refine lv_iload_n hx hb dX11_write_24 rfl (lv_at hl 2 rfl) ?_
      refine lv_if_lt (tgt := 41) hx hb dX11_write_25 (by decide) (fun c10 => ?_) (fun c10 => ?_)
      · rw [ki_lt] at c10
        refine lv_bipush (v := (-7)) hx hb dX11_write_41 (by decide) ?_
        have hP9 := hP.sub (ws' := [(a0, .inr (11, [.ref a1, .ref a2, .ref a3, .ref a4, .ref a5, .ref a6, .ref a7, .ref a8, .ref a9, .ref a10])), (a5, .inr (8, [.ref a36, .ref a37, .ref a38, .ref a39])), (a36, .inl (cI, 4, .inl xF24)), (a37, .inl (cI, 4, .inl xF25)), (a38, .inl (cZ, 4, .inl xF26)), (a39, .inl (cJ, 240, .inr (.inl xG27)))]) [0, 4, 1, 2, 5, 3] rfl
        have hD9 := hD.sub (ws' := [(a0, .inr (11, [.ref a1, .ref a2, .ref a3, .ref a4, .ref a5, .ref a6, .ref a7, .ref a8, .ref a9, .ref a10])), (a5, .inr (8, [.ref a36, .ref a37, .ref a38, .ref a39])), (a36, .inl (cI, 4, .inl xF24)), (a37, .inl (cI, 4, .inl xF25)), (a38, .inl (cZ, 4, .inl xF26)), (a39, .inl (cJ, 240, .inr (.inl xG27)))]) [0, 4, 1, 2, 5, 3] (by decide) rfl
        rw [hQ]
        exact W.iret (v := (-7)) hx hb hr (fun t ht hW => ⟨⟨(-7), (pickG 0 [], pickG (fun _ => 0) [], pickG (fun _ => 0) [xG27]), rfl, ⟨(show (-7 : Int) ≤ ((-7) : Int32).toInt ∧ ((-7) : Int32).toInt ≤ 0 from ⟨by omega, by omega⟩), trivial⟩, (by rw [ht]; exact hP9), hD9⟩, hS.F ht⟩) hS.2.2 dX11_write_43
      · rw [ki_lt] at c10
        refine lv_iload_n hx hb dX11_write_28 rfl (lv_at hl 2 rfl) ?_
        refine lv_aload_n hx hb dX11_write_29 rfl (lv_at hl 0 rfl) ?_
        refine va_get (D := (dC, dI)) (ci := 11) (v := .ref a5) (C := RX11) (T := TX11) (N := 10) hx hb hwd inlX11 hown hK hP 0 rfl rfl 4 (by decide) (hwd _ kr2_8) (fun _ h9 => h9) rfl dX11_write_30 ?_
        refine va_get (D := (dC, dI)) (ci := 8) (v := .ref a37) (C := RX8) (T := TX8) (N := 4) hx hb hwd inlX8 hown hK hP 4 rfl rfl 1 (by decide) (hwd _ kr54_2) (fun _ h9 => h9) rfl dX11_write_33 ?_
        refine lv_iload_n hx hb dX11_write_36 rfl (lv_at hl 1 rfl) ?_
        have h11 : vp_in p0 4 := (vp_of (by omega) (by omega))
        refine va_iald hx hb hK hP 2 0 rfl rfl h11 dX11_write_37 ?_
        refine lv_topi (fun x12 ex12 => ?_)
        have tx12 : (0 : Int) ≤ x12.toInt ∧ x12.toInt ≤ 60 := by rw [ex12]; exact p_0 _ (vp_nat h11)
        refine lv_icmp_lt (tgt := 44) hx hb dX11_write_38 (by decide) (fun c13 => ?_) (fun c13 => ?_)
        · rw [ki_lt] at c13
          refine lv_aload_n hx hb dX11_write_44 rfl (lv_at hl 0 rfl) ?_
          refine va_get (D := (dC, dI)) (ci := 11) (v := .ref a5) (C := RX11) (T := TX11) (N := 10) hx hb hwd inlX11 hown hK hP 0 rfl rfl 4 (by decide) (hwd _ kr2_8) (fun _ h9 => h9) rfl dX11_write_45 ?_
          refine lv_iload_n hx hb dX11_write_48 rfl (lv_at hl 1 rfl) ?_
          refine lv_iload_n hx hb dX11_write_49 rfl (lv_at hl 2 rfl) ?_
          refine lv_lload_n hx hb dX11_write_50 rfl (lv_at hl 3 rfl) ?_
          have hPc := hP.sub (ws' := [(a5, .inr (8, [.ref a36, .ref a37, .ref a38, .ref a39])), (a36, .inl (cI, 4, .inl xF24)), (a39, .inl (cJ, 240, .inr (.inl xG27)))]) [4, 1, 3] rfl
          have hDc := hD.sub (ws' := [(a5, .inr (8, [.ref a36, .ref a37, .ref a38, .ref a39])), (a36, .inl (cI, 4, .inl xF24)), (a39, .inl (cJ, 240, .inr (.inl xG27)))]) [4, 1, 3] (by decide) rfl
          have hFc := va_free (wc := [(a5, .inr (8, [.ref a36, .ref a37, .ref a38, .ref a39])), (a36, .inl (cI, 4, .inl xF24)), (a39, .inl (cJ, 240, .inr (.inl xG27)))]) hD hS hA [4, 1, 3] rfl
          refine va_callv (va_runV (As := [.int p0, .int p1, .long y2]) (rest := []) ⟨hx, hb, hml, hown, hwd⟩ (s_X8_put l dC dI cI cZ cB cJ cM cG a5 a36 a37 a38 a39 xF24 xG27 p0 p1 y2 H.size (show (0 : Int) ≤ p0.toInt ∧ p0.toInt ≤ 3 from ⟨by omega, by omega⟩) (show (0 : Int) ≤ p1.toInt ∧ p1.toInt ≤ 59 from ⟨by omega, by omega⟩)) (cwV 3 hwd (gV kr67_16 kr67_17 kr67_18 kr2_7 kr67_19) rfl rfl rfl (by decide +kernel) ⟨Nat.le_of_ble_eq_true rfl, Nat.le_of_ble_eq_true rfl⟩) (kPreV hPc hK hDc (ci := 8) (q0 := 0) rfl rfl) rfl rfl hl.1 rfl (lv_room (Nat.le_of_ble_eq_true rfl)) dX11_write_51 ⟨Nat.le_of_ble_eq_true rfl, Nat.le_of_ble_eq_true rfl⟩) hS (fun q _ h => hFc q h) hFc (fun u15 t H1 locs ht9 hvm hw hB hz1 hk1 hS => ?_)
          obtain ⟨u16, U16, V16⟩ := u15
          obtain ⟨hP1, hD1⟩ := hB
          rw [ht9] at hP1
          obtain ⟨hP, hD⟩ := va_join (wr := [(a0, .inr (11, [.ref a1, .ref a2, .ref a3, .ref a4, .ref a5, .ref a6, .ref a7, .ref a8, .ref a9, .ref a10])), (a37, .inl (cI, 4, .inl xF25)), (a38, .inl (cZ, 4, .inl xF26))]) (w1 := [(a5, .inr (8, [.ref a36, .ref a37, .ref a38, .ref a39])), (a36, .inl (cI, 4, .inl xF24)), (a39, .inl (cJ, 240, .inr (.inl (V16 0))))]) hP hD [4, 1, 3] [0, 2, 5] rfl rfl (by decide) (by decide) hk1 hFc hP1 hD1
          generalize H1 = H at hP hS ⊢
          have hP : va_P (dC, dI) vwCl [(a0, .inr (11, [.ref a1, .ref a2, .ref a3, .ref a4, .ref a5, .ref a6, .ref a7, .ref a8, .ref a9, .ref a10])), (a37, .inl (cI, 4, .inl xF25)), (a38, .inl (cZ, 4, .inl xF26)), (a5, .inr (8, [.ref a36, .ref a37, .ref a38, .ref a39])), (a36, .inl (cI, 4, .inl xF24)), (a39, .inl (cJ, 240, .inr (.inl (V16 0))))] H := hP
          have hD : va_D A [(a0, .inr (11, [.ref a1, .ref a2, .ref a3, .ref a4, .ref a5, .ref a6, .ref a7, .ref a8, .ref a9, .ref a10])), (a37, .inl (cI, 4, .inl xF25)), (a38, .inl (cZ, 4, .inl xF26)), (a5, .inr (8, [.ref a36, .ref a37, .ref a38, .ref a39])), (a36, .inl (cI, 4, .inl xF24)), (a39, .inl (cJ, 240, .inr (.inl (V16 0))))] := hD
          refine lv_iconst (v := 0) hx hb dX11_write_54 (by decide) ?_
          have hP9 := hP.sub (ws' := [(a0, .inr (11, [.ref a1, .ref a2, .ref a3, .ref a4, .ref a5, .ref a6, .ref a7, .ref a8, .ref a9, .ref a10])), (a5, .inr (8, [.ref a36, .ref a37, .ref a38, .ref a39])), (a36, .inl (cI, 4, .inl xF24)), (a37, .inl (cI, 4, .inl xF25)), (a38, .inl (cZ, 4, .inl xF26)), (a39, .inl (cJ, 240, .inr (.inl (V16 0))))]) [0, 3, 4, 1, 2, 5] rfl
          have hD9 := hD.sub (ws' := [(a0, .inr (11, [.ref a1, .ref a2, .ref a3, .ref a4, .ref a5, .ref a6, .ref a7, .ref a8, .ref a9, .ref a10])), (a5, .inr (8, [.ref a36, .ref a37, .ref a38, .ref a39])), (a36, .inl (cI, 4, .inl xF24)), (a37, .inl (cI, 4, .inl xF25)), (a38, .inl (cZ, 4, .inl xF26)), (a39, .inl (cJ, 240, .inr (.inl (V16 0))))]) [0, 3, 4, 1, 2, 5] (by decide) rfl
          rw [hQ]
          exact W.iret (v := 0) hx hb hr (fun t ht hW => ⟨⟨0, (pickG 0 [], pickG (fun _ => 0) [], pickG (fun _ => 0) [(V16 0)]), rfl, ⟨(show (-7 : Int) ≤ (0 : Int32).toInt ∧ (0 : Int32).toInt ≤ 0 from ⟨by omega, by omega⟩), trivial⟩, (by rw [ht]; exact hP9), hD9⟩, hS.F ht⟩) hS.2.2 dX11_write_55
        · rw [ki_lt] at c13
          refine lv_bipush (v := (-7)) hx hb dX11_write_41 (by decide) ?_
          have hP9 := hP.sub (ws' := [(a0, .inr (11, [.ref a1, .ref a2, .ref a3, .ref a4, .ref a5, .ref a6, .ref a7, .ref a8, .ref a9, .ref a10])), (a5, .inr (8, [.ref a36, .ref a37, .ref a38, .ref a39])), (a36, .inl (cI, 4, .inl xF24)), (a37, .inl (cI, 4, .inl xF25)), (a38, .inl (cZ, 4, .inl xF26)), (a39, .inl (cJ, 240, .inr (.inl xG27)))]) [0, 4, 1, 2, 5, 3] rfl
          have hD9 := hD.sub (ws' := [(a0, .inr (11, [.ref a1, .ref a2, .ref a3, .ref a4, .ref a5, .ref a6, .ref a7, .ref a8, .ref a9, .ref a10])), (a5, .inr (8, [.ref a36, .ref a37, .ref a38, .ref a39])), (a36, .inl (cI, 4, .inl xF24)), (a37, .inl (cI, 4, .inl xF25)), (a38, .inl (cZ, 4, .inl xF26)), (a39, .inl (cJ, 240, .inr (.inl xG27)))]) [0, 4, 1, 2, 5, 3] (by decide) rfl
          rw [hQ]
          exact W.iret (v := (-7)) hx hb hr (fun t ht hW => ⟨⟨(-7), (pickG 0 [], pickG (fun _ => 0) [], pickG (fun _ => 0) [xG27]), rfl, ⟨(show (-7 : Int) ≤ ((-7) : Int32).toInt ∧ ((-7) : Int32).toInt ≤ 0 from ⟨by omega, by omega⟩), trivial⟩, (by rw [ht]; exact hP9), hD9⟩, hS.F ht⟩) hS.2.2 dX11_write_43
    · rw [ki_eq] at c9
      refine lv_bipush (v := (-6)) hx hb dX11_write_21 (by decide) ?_
      have hP9 := hP.sub (ws' := [(a0, .inr (11, [.ref a1, .ref a2, .ref a3, .ref a4, .ref a5, .ref a6, .ref a7, .ref a8, .ref a9, .ref a10])), (a5, .inr (8, [.ref a36, .ref a37, .ref a38, .ref a39])), (a36, .inl (cI, 4, .inl xF24)), (a37, .inl (cI, 4, .inl xF25)), (a38, .inl (cZ, 4, .inl xF26)), (a39, .inl (cJ, 240, .inr (.inl xG27)))]) [0, 4, 1, 2, 5, 3] rfl
      have hD9 := hD.sub (ws' := [(a0, .inr (11, [.ref a1, .ref a2, .ref a3, .ref a4, .ref a5, .ref a6, .ref a7, .ref a8, .ref a9, .ref a10])), (a5, .inr (8, [.ref a36, .ref a37, .ref a38, .ref a39])), (a36, .inl (cI, 4, .inl xF24)), (a37, .inl (cI, 4, .inl xF25)), (a38, .inl (cZ, 4, .inl xF26)), (a39, .inl (cJ, 240, .inr (.inl xG27)))]) [0, 4, 1, 2, 5, 3] (by decide) rfl
      rw [hQ]
      exact W.iret (v := (-6)) hx hb hr (fun t ht hW => ⟨⟨(-6), (pickG 0 [], pickG (fun _ => 0) [], pickG (fun _ => 0) [xG27]), rfl, ⟨(show (-7 : Int) ≤ ((-6) : Int32).toInt ∧ ((-6) : Int32).toInt ≤ 0 from ⟨by omega, by omega⟩), trivial⟩, (by rw [ht]; exact hP9), hD9⟩, hS.F ht⟩) hS.2.2 dX11_write_23
  · rw [ki_eq] at c5
    refine lv_bipush (v := (-2)) hx hb dX11_write_7 (by decide) ?_
    have hP9 := hP.sub (ws' := [(a0, .inr (11, [.ref a1, .ref a2, .ref a3, .ref a4, .ref a5, .ref a6, .ref a7, .ref a8, .ref a9, .ref a10])), (a5, .inr (8, [.ref a36, .ref a37, .ref a38, .ref a39])), (a36, .inl (cI, 4, .inl xF24)), (a37, .inl (cI, 4, .inl xF25)), (a38, .inl (cZ, 4, .inl xF26)), (a39, .inl (cJ, 240, .inr (.inl xG27)))]) [0, 1, 2, 3, 4, 5] rfl
    have hD9 := hD.sub (ws' := [(a0, .inr (11, [.ref a1, .ref a2, .ref a3, .ref a4, .ref a5, .ref a6, .ref a7, .ref a8, .ref a9, .ref a10])), (a5, .inr (8, [.ref a36, .ref a37, .ref a38, .ref a39])), (a36, .inl (cI, 4, .inl xF24)), (a37, .inl (cI, 4, .inl xF25)), (a38, .inl (cZ, 4, .inl xF26)), (a39, .inl (cJ, 240, .inr (.inl xG27)))]) [0, 1, 2, 3, 4, 5] (by decide) rfl
    rw [hQ]
    exact W.iret (v := (-2)) hx hb hr (fun t ht hW => ⟨⟨(-2), (pickG 0 [], pickG (fun _ => 0) [], pickG (fun _ => 0) [xG27]), rfl, ⟨(show (-7 : Int) ≤ ((-2) : Int32).toInt ∧ ((-2) : Int32).toInt ≤ 0 from ⟨by omega, by omega⟩), trivial⟩, (by rw [ht]; exact hP9), hD9⟩, hS.F ht⟩) hS.2.2 dX11_write_9
theorem dX11_paste_0 : decode cX11_paste 0 = .ok (.iload_n 1, 1) := by decide +kernel
theorem dX11_paste_1 : decode cX11_paste 1 = .ok (.invokestatic 408, 3) := by decide +kernel
theorem dX11_paste_4 : decode cX11_paste 4 = .ok (.ifCond .eq 10, 3) := by decide +kernel
theorem dX11_paste_7 : decode cX11_paste 7 = .ok (.iload_n 3, 1) := by decide +kernel
theorem dX11_paste_8 : decode cX11_paste 8 = .ok (.invokestatic 408, 3) := by decide +kernel
theorem dX11_paste_11 : decode cX11_paste 11 = .ok (.ifCond .ne 6, 3) := by decide +kernel
theorem dX11_paste_14 : decode cX11_paste 14 = .ok (.bipush (-2), 2) := by decide +kernel
theorem dX11_paste_16 : decode cX11_paste 16 = .ok (.ireturn, 1) := by decide +kernel
theorem dX11_paste_17 : decode cX11_paste 17 = .ok (.aload_n 0, 1) := by decide +kernel
theorem dX11_paste_18 : decode cX11_paste 18 = .ok (.getfield 40, 3) := by decide +kernel
theorem dX11_paste_21 : decode cX11_paste 21 = .ok (.iload_n 1, 1) := by decide +kernel
theorem dX11_paste_22 : decode cX11_paste 22 = .ok (.invokevirtual 415, 3) := by decide +kernel
theorem dX11_paste_25 : decode cX11_paste 25 = .ok (.ifCond .eq 14, 3) := by decide +kernel
theorem dX11_paste_28 : decode cX11_paste 28 = .ok (.aload_n 0, 1) := by decide +kernel
theorem dX11_paste_29 : decode cX11_paste 29 = .ok (.getfield 40, 3) := by decide +kernel
theorem dX11_paste_32 : decode cX11_paste 32 = .ok (.iload_n 3, 1) := by decide +kernel
theorem dX11_paste_33 : decode cX11_paste 33 = .ok (.invokevirtual 415, 3) := by decide +kernel
theorem dX11_paste_36 : decode cX11_paste 36 = .ok (.ifCond .ne 6, 3) := by decide +kernel
theorem dX11_paste_39 : decode cX11_paste 39 = .ok (.bipush (-6), 2) := by decide +kernel
theorem dX11_paste_41 : decode cX11_paste 41 = .ok (.ireturn, 1) := by decide +kernel
theorem dX11_paste_42 : decode cX11_paste 42 = .ok (.aload_n 0, 1) := by decide +kernel
theorem dX11_paste_43 : decode cX11_paste 43 = .ok (.getfield 40, 3) := by decide +kernel
theorem dX11_paste_46 : decode cX11_paste 46 = .ok (.getfield 423, 3) := by decide +kernel
theorem dX11_paste_49 : decode cX11_paste 49 = .ok (.iload_n 1, 1) := by decide +kernel
theorem dX11_paste_50 : decode cX11_paste 50 = .ok (.iaload, 1) := by decide +kernel
theorem dX11_paste_51 : decode cX11_paste 51 = .ok (.aload_n 0, 1) := by decide +kernel
theorem dX11_paste_52 : decode cX11_paste 52 = .ok (.getfield 40, 3) := by decide +kernel
theorem dX11_paste_55 : decode cX11_paste 55 = .ok (.getfield 423, 3) := by decide +kernel
theorem dX11_paste_58 : decode cX11_paste 58 = .ok (.iload_n 3, 1) := by decide +kernel
theorem dX11_paste_59 : decode cX11_paste 59 = .ok (.iaload, 1) := by decide +kernel
theorem dX11_paste_60 : decode cX11_paste 60 = .ok (.if_icmp .eq 6, 3) := by decide +kernel
theorem dX11_paste_63 : decode cX11_paste 63 = .ok (.bipush (-8), 2) := by decide +kernel
theorem dX11_paste_65 : decode cX11_paste 65 = .ok (.ireturn, 1) := by decide +kernel
theorem dX11_paste_66 : decode cX11_paste 66 = .ok (.aload_n 0, 1) := by decide +kernel
theorem dX11_paste_67 : decode cX11_paste 67 = .ok (.getfield 40, 3) := by decide +kernel
theorem dX11_paste_70 : decode cX11_paste 70 = .ok (.iload_n 1, 1) := by decide +kernel
theorem dX11_paste_71 : decode cX11_paste 71 = .ok (.iload_n 2, 1) := by decide +kernel
theorem dX11_paste_72 : decode cX11_paste 72 = .ok (.iload 5, 2) := by decide +kernel
theorem dX11_paste_74 : decode cX11_paste 74 = .ok (.invokevirtual 426, 3) := by decide +kernel
theorem dX11_paste_77 : decode cX11_paste 77 = .ok (.ifCond .eq 18, 3) := by decide +kernel
theorem dX11_paste_80 : decode cX11_paste 80 = .ok (.aload_n 0, 1) := by decide +kernel
theorem dX11_paste_81 : decode cX11_paste 81 = .ok (.getfield 40, 3) := by decide +kernel
theorem dX11_paste_84 : decode cX11_paste 84 = .ok (.iload_n 3, 1) := by decide +kernel
theorem dX11_paste_85 : decode cX11_paste 85 = .ok (.iload 4, 2) := by decide +kernel
theorem dX11_paste_87 : decode cX11_paste 87 = .ok (.iload 5, 2) := by decide +kernel
theorem dX11_paste_89 : decode cX11_paste 89 = .ok (.invokevirtual 426, 3) := by decide +kernel
theorem dX11_paste_92 : decode cX11_paste 92 = .ok (.ifCond .ne 6, 3) := by decide +kernel
theorem dX11_paste_95 : decode cX11_paste 95 = .ok (.bipush (-7), 2) := by decide +kernel
theorem dX11_paste_97 : decode cX11_paste 97 = .ok (.ireturn, 1) := by decide +kernel
theorem dX11_paste_98 : decode cX11_paste 98 = .ok (.aload_n 0, 1) := by decide +kernel
theorem dX11_paste_99 : decode cX11_paste 99 = .ok (.getfield 40, 3) := by decide +kernel
theorem dX11_paste_102 : decode cX11_paste 102 = .ok (.iload_n 1, 1) := by decide +kernel
theorem dX11_paste_103 : decode cX11_paste 103 = .ok (.iload_n 2, 1) := by decide +kernel
theorem dX11_paste_104 : decode cX11_paste 104 = .ok (.iload_n 3, 1) := by decide +kernel
theorem dX11_paste_105 : decode cX11_paste 105 = .ok (.iload 4, 2) := by decide +kernel
theorem dX11_paste_107 : decode cX11_paste 107 = .ok (.iload 5, 2) := by decide +kernel
theorem dX11_paste_109 : decode cX11_paste 109 = .ok (.invokevirtual 429, 3) := by decide +kernel
theorem dX11_paste_112 : decode cX11_paste 112 = .ok (.iconst 0, 1) := by decide +kernel
theorem dX11_paste_113 : decode cX11_paste 113 = .ok (.ireturn, 1) := by decide +kernel
set_option maxHeartbeats 4000000 in
set_option maxRecDepth 100000 in
theorem s_X11_paste (l : Launch) (dC : Nat → ClassId) (dI : Nat → Nat → Nat) (cI cZ cB cJ cM cG : ClassId) (a0 a1 a2 a3 a4 a5 a6 a7 a8 a9 a10 a36 a37 a38 a39 : Nat) (xF24 xF25 xF26 : Nat → Int32) (xG27 : Nat → Int64) (p0 p1 p2 p3 p4 : Int32) (sz : Nat) (p_0 : rng xF25 4 0 60) (p_1 : rng xF26 4 0 1) : Met l yX11_paste (kw yX11_paste cX11_paste 6 (some .int)) ({ frames := 2, cells := 0, slots := 0, locals := 89 } : Room) (va_Pc [.ref a0, .int p0, .int p1, .int p2, .int p3, .int p4] (kPre dC dI [(cI, .int), (cZ, .boolean), (cB, .byte), (cJ, .long), (cM, .object RX2), (cG, .array .int)] [(a0, .inr (11, [.ref a1, .ref a2, .ref a3, .ref a4, .ref a5, .ref a6, .ref a7, .ref a8, .ref a9, .ref a10])), (a5, .inr (8, [.ref a36, .ref a37, .ref a38, .ref a39])), (a36, .inl (cI, 4, .inl xF24)), (a37, .inl (cI, 4, .inl xF25)), (a38, .inl (cZ, 4, .inl xF26)), (a39, .inl (cJ, 240, .inr (.inl xG27)))] sz)) (va_Qi (fun (r : Int32) (u9 : (Nat → Int32) × (Nat → Nat → Int32) × (Nat → Nat → Int64)) => ((-8 : Int) ≤ r.toInt ∧ r.toInt ≤ 0) ∧ True) (fun u9 t => va_P (dC, dI) vwCl [(a0, .inr (11, [.ref a1, .ref a2, .ref a3, .ref a4, .ref a5, .ref a6, .ref a7, .ref a8, .ref a9, .ref a10])), (a5, .inr (8, [.ref a36, .ref a37, .ref a38, .ref a39])), (a36, .inl (cI, 4, .inl xF24)), (a37, .inl (cI, 4, .inl xF25)), (a38, .inl (cZ, 4, .inl xF26)), (a39, .inl (cJ, 240, .inr (.inl (u9.2.2 0))))] t.heap ∧ va_D (va_A [(a0, .inr (11, [.ref a1, .ref a2, .ref a3, .ref a4, .ref a5, .ref a6, .ref a7, .ref a8, .ref a9, .ref a10])), (a5, .inr (8, [.ref a36, .ref a37, .ref a38, .ref a39])), (a36, .inl (cI, 4, .inl xF24)), (a37, .inl (cI, 4, .inl xF25)), (a38, .inl (cZ, 4, .inl xF26)), (a39, .inl (cJ, 240, .inr (.inl xG27)))] sz) [(a0, .inr (11, [.ref a1, .ref a2, .ref a3, .ref a4, .ref a5, .ref a6, .ref a7, .ref a8, .ref a9, .ref a10])), (a5, .inr (8, [.ref a36, .ref a37, .ref a38, .ref a39])), (a36, .inl (cI, 4, .inl xF24)), (a37, .inl (cI, 4, .inl xF25)), (a38, .inl (cZ, 4, .inl xF26)), (a39, .inl (cJ, 240, .inr (.inl (u9.2.2 0))))]) (va_A [(a0, .inr (11, [.ref a1, .ref a2, .ref a3, .ref a4, .ref a5, .ref a6, .ref a7, .ref a8, .ref a9, .ref a10])), (a5, .inr (8, [.ref a36, .ref a37, .ref a38, .ref a39])), (a36, .inl (cI, 4, .inl xF24)), (a37, .inl (cI, 4, .inl xF25)), (a38, .inl (cZ, 4, .inl xF26)), (a39, .inl (cJ, 240, .inr (.inl xG27)))] sz)) 0 0 (va_A [(a0, .inr (11, [.ref a1, .ref a2, .ref a3, .ref a4, .ref a5, .ref a6, .ref a7, .ref a8, .ref a9, .ref a10])), (a5, .inr (8, [.ref a36, .ref a37, .ref a38, .ref a39])), (a36, .inl (cI, 4, .inl xF24)), (a37, .inl (cI, 4, .inl xF25)), (a38, .inl (cZ, 4, .inl xF26)), (a39, .inl (cJ, 240, .inr (.inl xG27)))] sz) := by
  refine kEnter (by decide) (Nat.le_of_ble_eq_true rfl) ?_
  intro p e s m below meth c ls hx hb hr hml hown hlocks hin hwd hsz hP hK hD hl
  subst hsz
  generalize hAe : va_A [(a0, .inr (11, [.ref a1, .ref a2, .ref a3, .ref a4, .ref a5, .ref a6, .ref a7, .ref a8, .ref a9, .ref a10])), (a5, .inr (8, [.ref a36, .ref a37, .ref a38, .ref a39])), (a36, .inl (cI, 4, .inl xF24)), (a37, .inl (cI, 4, .inl xF25)), (a38, .inl (cZ, 4, .inl xF26)), (a39, .inl (cJ, 240, .inr (.inl xG27)))] s.heap.size = A at hD ⊢
  have hA : ∀ q : Nat, s.heap.size ≤ q → A q := fun q h => by rw [← hAe]; exact Or.inr h
  have hS : va_S A s.heap s.heap [] := va_S.rf
  have hl : lv_has ls 6 [(0, .ref a0), (1, .int p0), (2, .int p1), (3, .int p2), (4, .int p3), (5, .int p4)] := hl
  obtain ⟨Q, hQ⟩ : ∃ Q, Q = MQ below (va_Qi (fun (r : Int32) (u9 : (Nat → Int32) × (Nat → Nat → Int32) × (Nat → Nat → Int64)) => ((-8 : Int) ≤ r.toInt ∧ r.toInt ≤ 0) ∧ True) (fun u9 t => va_P (dC, dI) vwCl [(a0, .inr (11, [.ref a1, .ref a2, .ref a3, .ref a4, .ref a5, .ref a6, .ref a7, .ref a8, .ref a9, .ref a10])), (a5, .inr (8, [.ref a36, .ref a37, .ref a38, .ref a39])), (a36, .inl (cI, 4, .inl xF24)), (a37, .inl (cI, 4, .inl xF25)), (a38, .inl (cZ, 4, .inl xF26)), (a39, .inl (cJ, 240, .inr (.inl (u9.2.2 0))))] t.heap ∧ va_D A [(a0, .inr (11, [.ref a1, .ref a2, .ref a3, .ref a4, .ref a5, .ref a6, .ref a7, .ref a8, .ref a9, .ref a10])), (a5, .inr (8, [.ref a36, .ref a37, .ref a38, .ref a39])), (a36, .inl (cI, 4, .inl xF24)), (a37, .inl (cI, 4, .inl xF25)), (a38, .inl (cZ, 4, .inl xF26)), (a39, .inl (cJ, 240, .inr (.inl (u9.2.2 0))))]) A) ([.ref a0, .int p0, .int p1, .int p2, .int p3, .int p4] : List Value).toArray s 0 0 A := ⟨_, rfl⟩
  rw [← hQ]
  have km8 : ((-8) : Int32).toInt = -8 := by decide
  have km7 : ((-7) : Int32).toInt = -7 := by decide
  have km6 : ((-6) : Int32).toInt = -6 := by decide
  have km2 : ((-2) : Int32).toInt = -2 := by decide
  have k0 : (0 : Int32).toInt = 0 := by decide
  have k3 : (3 : Int32).toInt = 3 := by decide
  have k60 : (60 : Int32).toInt = 60 := by decide
  refine lv_iload_n hx hb dX11_paste_0 rfl (lv_at hl 1 rfl) ?_
  have hPc := hP.sub (ws' := []) [] rfl
  have hDc := hD.sub (ws' := []) [] (by decide) rfl
  have hFc := va_free (wc := []) hD hS hA [] rfl
  refine va_calli (va_runS (As := [.int p0]) (rest := []) ⟨hx, hb, hml, hown, hwd⟩ (s_X11_isSlot l dC dI cI cZ cB cJ cM cG p0 s.heap.size) (cwS 1 hwd (gS kr54_5 kr54_6 kr1_2 kr54_7) rfl rfl rfl (by decide +kernel) ⟨Nat.le_of_ble_eq_true rfl, Nat.le_of_ble_eq_true rfl⟩) (kPreS hPc hK hDc) rfl rfl hl.1 rfl (lv_room (Nat.le_of_ble_eq_true rfl)) dX11_paste_1 ⟨Nat.le_of_ble_eq_true rfl, Nat.le_of_ble_eq_true rfl⟩) hS (fun q _ h => hFc q h) hFc (fun r1 u2 t H1 locs ht9 hvm hw hB hz1 hk1 hS => ?_)
  obtain ⟨hw3, hw4, -⟩ := hw
  have hw3 : (0 : Int) ≤ r1.toInt ∧ r1.toInt ≤ 1 := hw3
  obtain ⟨hP1, hD1⟩ := hB
  rw [ht9] at hP1
  obtain ⟨hP, hD⟩ := va_join (wr := [(a0, .inr (11, [.ref a1, .ref a2, .ref a3, .ref a4, .ref a5, .ref a6, .ref a7, .ref a8, .ref a9, .ref a10])), (a5, .inr (8, [.ref a36, .ref a37, .ref a38, .ref a39])), (a36, .inl (cI, 4, .inl xF24)), (a37, .inl (cI, 4, .inl xF25)), (a38, .inl (cZ, 4, .inl xF26)), (a39, .inl (cJ, 240, .inr (.inl xG27)))]) (w1 := []) hP hD [] [0, 1, 2, 3, 4, 5] rfl rfl (by decide) (by decide) hk1 hFc hP1 hD1
  generalize H1 = H at hP hS ⊢
  have hP : va_P (dC, dI) vwCl [(a0, .inr (11, [.ref a1, .ref a2, .ref a3, .ref a4, .ref a5, .ref a6, .ref a7, .ref a8, .ref a9, .ref a10])), (a5, .inr (8, [.ref a36, .ref a37, .ref a38, .ref a39])), (a36, .inl (cI, 4, .inl xF24)), (a37, .inl (cI, 4, .inl xF25)), (a38, .inl (cZ, 4, .inl xF26)), (a39, .inl (cJ, 240, .inr (.inl xG27)))] H := hP
  have hD : va_D A [(a0, .inr (11, [.ref a1, .ref a2, .ref a3, .ref a4, .ref a5, .ref a6, .ref a7, .ref a8, .ref a9, .ref a10])), (a5, .inr (8, [.ref a36, .ref a37, .ref a38, .ref a39])), (a36, .inl (cI, 4, .inl xF24)), (a37, .inl (cI, 4, .inl xF25)), (a38, .inl (cZ, 4, .inl xF26)), (a39, .inl (cJ, 240, .inr (.inl xG27)))] := hD
  refine lv_if_eq (tgt := 14) hx hb dX11_paste_4 (by decide) (fun c5 => ?_) (fun c5 => ?_)
  · rw [ki_eq] at c5
    refine lv_bipush (v := (-2)) hx hb dX11_paste_14 (by decide) ?_
    have hP9 := hP.sub (ws' := [(a0, .inr (11, [.ref a1, .ref a2, .ref a3, .ref a4, .ref a5, .ref a6, .ref a7, .ref a8, .ref a9, .ref a10])), (a5, .inr (8, [.ref a36, .ref a37, .ref a38, .ref a39])), (a36, .inl (cI, 4, .inl xF24)), (a37, .inl (cI, 4, .inl xF25)), (a38, .inl (cZ, 4, .inl xF26)), (a39, .inl (cJ, 240, .inr (.inl xG27)))]) [0, 1, 2, 3, 4, 5] rfl
    have hD9 := hD.sub (ws' := [(a0, .inr (11, [.ref a1, .ref a2, .ref a3, .ref a4, .ref a5, .ref a6, .ref a7, .ref a8, .ref a9, .ref a10])), (a5, .inr (8, [.ref a36, .ref a37, .ref a38, .ref a39])), (a36, .inl (cI, 4, .inl xF24)), (a37, .inl (cI, 4, .inl xF25)), (a38, .inl (cZ, 4, .inl xF26)), (a39, .inl (cJ, 240, .inr (.inl xG27)))]) [0, 1, 2, 3, 4, 5] (by decide) rfl
    rw [hQ]
    exact W.iret (v := (-2)) hx hb hr (fun t ht hW => ⟨⟨(-2), (pickG 0 [], pickG (fun _ => 0) [], pickG (fun _ => 0) [xG27]), rfl, ⟨(show (-8 : Int) ≤ ((-2) : Int32).toInt ∧ ((-2) : Int32).toInt ≤ 0 from ⟨by omega, by omega⟩), trivial⟩, (by rw [ht]; exact hP9), hD9⟩, hS.F ht⟩) hS.2.2 dX11_paste_16
  · rw [ki_eq] at c5
    have hw4q := hw4 (by omega)
    clear hw4
    refine lv_iload_n hx hb dX11_paste_7 rfl (lv_at hl 3 rfl) ?_
    have hPc := hP.sub (ws' := []) [] rfl
    have hDc := hD.sub (ws' := []) [] (by decide) rfl
    have hFc := va_free (wc := []) hD hS hA [] rfl
    refine va_calli (va_runS (As := [.int p2]) (rest := []) ⟨hx, hb, hml, hown, hwd⟩ (s_X11_isSlot l dC dI cI cZ cB cJ cM cG p2 H.size) (cwS 1 hwd (gS kr54_5 kr54_6 kr1_2 kr54_7) rfl rfl rfl (by decide +kernel) ⟨Nat.le_of_ble_eq_true rfl, Nat.le_of_ble_eq_true rfl⟩) (kPreS hPc hK hDc) rfl rfl hl.1 rfl (lv_room (Nat.le_of_ble_eq_true rfl)) dX11_paste_8 ⟨Nat.le_of_ble_eq_true rfl, Nat.le_of_ble_eq_true rfl⟩) hS (fun q _ h => hFc q h) hFc (fun r6 u7 t H1 locs ht9 hvm hw hB hz1 hk1 hS => ?_)
    obtain ⟨hw8, hw9, -⟩ := hw
    have hw8 : (0 : Int) ≤ r6.toInt ∧ r6.toInt ≤ 1 := hw8
    obtain ⟨hP1, hD1⟩ := hB
    rw [ht9] at hP1
    obtain ⟨hP, hD⟩ := va_join (wr := [(a0, .inr (11, [.ref a1, .ref a2, .ref a3, .ref a4, .ref a5, .ref a6, .ref a7, .ref a8, .ref a9, .ref a10])), (a5, .inr (8, [.ref a36, .ref a37, .ref a38, .ref a39])), (a36, .inl (cI, 4, .inl xF24)), (a37, .inl (cI, 4, .inl xF25)), (a38, .inl (cZ, 4, .inl xF26)), (a39, .inl (cJ, 240, .inr (.inl xG27)))]) (w1 := []) hP hD [] [0, 1, 2, 3, 4, 5] rfl rfl (by decide) (by decide) hk1 hFc hP1 hD1
    generalize H1 = H at hP hS ⊢
    have hP : va_P (dC, dI) vwCl [(a0, .inr (11, [.ref a1, .ref a2, .ref a3, .ref a4, .ref a5, .ref a6, .ref a7, .ref a8, .ref a9, .ref a10])), (a5, .inr (8, [.ref a36, .ref a37, .ref a38, .ref a39])), (a36, .inl (cI, 4, .inl xF24)), (a37, .inl (cI, 4, .inl xF25)), (a38, .inl (cZ, 4, .inl xF26)), (a39, .inl (cJ, 240, .inr (.inl xG27)))] H := hP
    have hD : va_D A [(a0, .inr (11, [.ref a1, .ref a2, .ref a3, .ref a4, .ref a5, .ref a6, .ref a7, .ref a8, .ref a9, .ref a10])), (a5, .inr (8, [.ref a36, .ref a37, .ref a38, .ref a39])), (a36, .inl (cI, 4, .inl xF24)), (a37, .inl (cI, 4, .inl xF25)), (a38, .inl (cZ, 4, .inl xF26)), (a39, .inl (cJ, 240, .inr (.inl xG27)))] := hD
    refine lv_if_ne (tgt := 17) hx hb dX11_paste_11 (by decide) (fun c10 => ?_) (fun c10 => ?_)
    · rw [ki_eq] at c10
      have hw9q := hw9 (by omega)
      clear hw9
      refine lv_aload_n hx hb dX11_paste_17 rfl (lv_at hl 0 rfl) ?_
      refine va_get (D := (dC, dI)) (ci := 11) (v := .ref a5) (C := RX11) (T := TX11) (N := 10) hx hb hwd inlX11 hown hK hP 0 rfl rfl 4 (by decide) (hwd _ kr2_8) (fun _ h9 => h9) rfl dX11_paste_18 ?_
      refine lv_iload_n hx hb dX11_paste_21 rfl (lv_at hl 1 rfl) ?_
      have hPc := hP.sub (ws' := [(a5, .inr (8, [.ref a36, .ref a37, .ref a38, .ref a39])), (a38, .inl (cZ, 4, .inl xF26))]) [1, 4] rfl
      have hDc := hD.sub (ws' := [(a5, .inr (8, [.ref a36, .ref a37, .ref a38, .ref a39])), (a38, .inl (cZ, 4, .inl xF26))]) [1, 4] (by decide) rfl
      have hFc := va_free (wc := [(a5, .inr (8, [.ref a36, .ref a37, .ref a38, .ref a39])), (a38, .inl (cZ, 4, .inl xF26))]) hD hS hA [1, 4] rfl
      refine va_calli (va_runV (As := [.int p0]) (rest := []) ⟨hx, hb, hml, hown, hwd⟩ (s_X8_hasRow l dC dI cI cZ cB cJ cM cG a5 a36 a37 a38 a39 xF26 p0 H.size (show rng xF26 4 0 1 from p_1) (show (0 : Int) ≤ p0.toInt ∧ p0.toInt ≤ 3 from ⟨by omega, by omega⟩)) (cwV 1 hwd (gV kr54_8 kr54_9 kr54_10 kr2_7 kr54_11) rfl rfl rfl (by decide +kernel) ⟨Nat.le_of_ble_eq_true rfl, Nat.le_of_ble_eq_true rfl⟩) (kPreV hPc hK hDc (ci := 8) (q0 := 0) rfl rfl) rfl rfl hl.1 rfl (lv_room (Nat.le_of_ble_eq_true rfl)) dX11_paste_22 ⟨Nat.le_of_ble_eq_true rfl, Nat.le_of_ble_eq_true rfl⟩) hS (fun q _ h => hFc q h) hFc (fun r11 u12 t H1 locs ht9 hvm hw hB hz1 hk1 hS => ?_)
      obtain ⟨hw13, -⟩ := hw
      have hw13 : (0 : Int) ≤ r11.toInt ∧ r11.toInt ≤ 1 := hw13
      obtain ⟨hP1, hD1⟩ := hB
      rw [ht9] at hP1
      obtain ⟨hP, hD⟩ := va_join (wr := [(a0, .inr (11, [.ref a1, .ref a2, .ref a3, .ref a4, .ref a5, .ref a6, .ref a7, .ref a8, .ref a9, .ref a10])), (a36, .inl (cI, 4, .inl xF24)), (a37, .inl (cI, 4, .inl xF25)), (a39, .inl (cJ, 240, .inr (.inl xG27)))]) (w1 := [(a5, .inr (8, [.ref a36, .ref a37, .ref a38, .ref a39])), (a38, .inl (cZ, 4, .inl xF26))]) hP hD [1, 4] [0, 2, 3, 5] rfl rfl (by decide) (by decide) hk1 hFc hP1 hD1
      generalize H1 = H at hP hS ⊢
      have hP : va_P (dC, dI) vwCl [(a0, .inr (11, [.ref a1, .ref a2, .ref a3, .ref a4, .ref a5, .ref a6, .ref a7, .ref a8, .ref a9, .ref a10])), (a36, .inl (cI, 4, .inl xF24)), (a37, .inl (cI, 4, .inl xF25)), (a39, .inl (cJ, 240, .inr (.inl xG27))), (a5, .inr (8, [.ref a36, .ref a37, .ref a38, .ref a39])), (a38, .inl (cZ, 4, .inl xF26))] H := hP
      have hD : va_D A [(a0, .inr (11, [.ref a1, .ref a2, .ref a3, .ref a4, .ref a5, .ref a6, .ref a7, .ref a8, .ref a9, .ref a10])), (a36, .inl (cI, 4, .inl xF24)), (a37, .inl (cI, 4, .inl xF25)), (a39, .inl (cJ, 240, .inr (.inl xG27))), (a5, .inr (8, [.ref a36, .ref a37, .ref a38, .ref a39])), (a38, .inl (cZ, 4, .inl xF26))] := hD
      refine lv_if_eq (tgt := 39) hx hb dX11_paste_25 (by decide) (fun c14 => ?_) (fun c14 => ?_)
      · rw [ki_eq] at c14
        refine lv_bipush (v := (-6)) hx hb dX11_paste_39 (by decide) ?_
        have hP9 := hP.sub (ws' := [(a0, .inr (11, [.ref a1, .ref a2, .ref a3, .ref a4, .ref a5, .ref a6, .ref a7, .ref a8, .ref a9, .ref a10])), (a5, .inr (8, [.ref a36, .ref a37, .ref a38, .ref a39])), (a36, .inl (cI, 4, .inl xF24)), (a37, .inl (cI, 4, .inl xF25)), (a38, .inl (cZ, 4, .inl xF26)), (a39, .inl (cJ, 240, .inr (.inl xG27)))]) [0, 4, 1, 2, 5, 3] rfl
        have hD9 := hD.sub (ws' := [(a0, .inr (11, [.ref a1, .ref a2, .ref a3, .ref a4, .ref a5, .ref a6, .ref a7, .ref a8, .ref a9, .ref a10])), (a5, .inr (8, [.ref a36, .ref a37, .ref a38, .ref a39])), (a36, .inl (cI, 4, .inl xF24)), (a37, .inl (cI, 4, .inl xF25)), (a38, .inl (cZ, 4, .inl xF26)), (a39, .inl (cJ, 240, .inr (.inl xG27)))]) [0, 4, 1, 2, 5, 3] (by decide) rfl
        rw [hQ]
        exact W.iret (v := (-6)) hx hb hr (fun t ht hW => ⟨⟨(-6), (pickG 0 [], pickG (fun _ => 0) [], pickG (fun _ => 0) [xG27]), rfl, ⟨(show (-8 : Int) ≤ ((-6) : Int32).toInt ∧ ((-6) : Int32).toInt ≤ 0 from ⟨by omega, by omega⟩), trivial⟩, (by rw [ht]; exact hP9), hD9⟩, hS.F ht⟩) hS.2.2 dX11_paste_41
      · rw [ki_eq] at c14
        refine lv_aload_n hx hb dX11_paste_28 rfl (lv_at hl 0 rfl) ?_
        refine va_get (D := (dC, dI)) (ci := 11) (v := .ref a5) (C := RX11) (T := TX11) (N := 10) hx hb hwd inlX11 hown hK hP 0 rfl rfl 4 (by decide) (hwd _ kr2_8) (fun _ h9 => h9) rfl dX11_paste_29 ?_
        refine lv_iload_n hx hb dX11_paste_32 rfl (lv_at hl 3 rfl) ?_
        have hPc := hP.sub (ws' := [(a5, .inr (8, [.ref a36, .ref a37, .ref a38, .ref a39])), (a38, .inl (cZ, 4, .inl xF26))]) [4, 5] rfl
        have hDc := hD.sub (ws' := [(a5, .inr (8, [.ref a36, .ref a37, .ref a38, .ref a39])), (a38, .inl (cZ, 4, .inl xF26))]) [4, 5] (by decide) rfl
        have hFc := va_free (wc := [(a5, .inr (8, [.ref a36, .ref a37, .ref a38, .ref a39])), (a38, .inl (cZ, 4, .inl xF26))]) hD hS hA [4, 5] rfl
        refine va_calli (va_runV (As := [.int p2]) (rest := []) ⟨hx, hb, hml, hown, hwd⟩ (s_X8_hasRow l dC dI cI cZ cB cJ cM cG a5 a36 a37 a38 a39 xF26 p2 H.size (show rng xF26 4 0 1 from p_1) (show (0 : Int) ≤ p2.toInt ∧ p2.toInt ≤ 3 from ⟨by omega, by omega⟩)) (cwV 1 hwd (gV kr54_8 kr54_9 kr54_10 kr2_7 kr54_11) rfl rfl rfl (by decide +kernel) ⟨Nat.le_of_ble_eq_true rfl, Nat.le_of_ble_eq_true rfl⟩) (kPreV hPc hK hDc (ci := 8) (q0 := 0) rfl rfl) rfl rfl hl.1 rfl (lv_room (Nat.le_of_ble_eq_true rfl)) dX11_paste_33 ⟨Nat.le_of_ble_eq_true rfl, Nat.le_of_ble_eq_true rfl⟩) hS (fun q _ h => hFc q h) hFc (fun r15 u16 t H1 locs ht9 hvm hw hB hz1 hk1 hS => ?_)
        obtain ⟨hw17, -⟩ := hw
        have hw17 : (0 : Int) ≤ r15.toInt ∧ r15.toInt ≤ 1 := hw17
        obtain ⟨hP1, hD1⟩ := hB
        rw [ht9] at hP1
        obtain ⟨hP, hD⟩ := va_join (wr := [(a0, .inr (11, [.ref a1, .ref a2, .ref a3, .ref a4, .ref a5, .ref a6, .ref a7, .ref a8, .ref a9, .ref a10])), (a36, .inl (cI, 4, .inl xF24)), (a37, .inl (cI, 4, .inl xF25)), (a39, .inl (cJ, 240, .inr (.inl xG27)))]) (w1 := [(a5, .inr (8, [.ref a36, .ref a37, .ref a38, .ref a39])), (a38, .inl (cZ, 4, .inl xF26))]) hP hD [4, 5] [0, 1, 2, 3] rfl rfl (by decide) (by decide) hk1 hFc hP1 hD1
        generalize H1 = H at hP hS ⊢
        have hP : va_P (dC, dI) vwCl [(a0, .inr (11, [.ref a1, .ref a2, .ref a3, .ref a4, .ref a5, .ref a6, .ref a7, .ref a8, .ref a9, .ref a10])), (a36, .inl (cI, 4, .inl xF24)), (a37, .inl (cI, 4, .inl xF25)), (a39, .inl (cJ, 240, .inr (.inl xG27))), (a5, .inr (8, [.ref a36, .ref a37, .ref a38, .ref a39])), (a38, .inl (cZ, 4, .inl xF26))] H := hP
        have hD : va_D A [(a0, .inr (11, [.ref a1, .ref a2, .ref a3, .ref a4, .ref a5, .ref a6, .ref a7, .ref a8, .ref a9, .ref a10])), (a36, .inl (cI, 4, .inl xF24)), (a37, .inl (cI, 4, .inl xF25)), (a39, .inl (cJ, 240, .inr (.inl xG27))), (a5, .inr (8, [.ref a36, .ref a37, .ref a38, .ref a39])), (a38, .inl (cZ, 4, .inl xF26))] := hD
        refine lv_if_ne (tgt := 42) hx hb dX11_paste_36 (by decide) (fun c18 => ?_) (fun c18 => ?_)
        · rw [ki_eq] at c18
          refine lv_aload_n hx hb dX11_paste_42 rfl (lv_at hl 0 rfl) ?_
          refine va_get (D := (dC, dI)) (ci := 11) (v := .ref a5) (C := RX11) (T := TX11) (N := 10) hx hb hwd inlX11 hown hK hP 0 rfl rfl 4 (by decide) (hwd _ kr2_8) (fun _ h9 => h9) rfl dX11_paste_43 ?_
          refine va_get (D := (dC, dI)) (ci := 8) (v := .ref a36) (C := RX8) (T := TX8) (N := 4) hx hb hwd inlX8 hown hK hP 4 rfl rfl 0 (by decide) (hwd _ kr68_10) (fun _ h9 => h9) rfl dX11_paste_46 ?_
          refine lv_iload_n hx hb dX11_paste_49 rfl (lv_at hl 1 rfl) ?_
          have h19 : vp_in p0 4 := (vp_of (by omega) (by omega))
          refine va_iald hx hb hK hP 1 0 rfl rfl h19 dX11_paste_50 ?_
          refine lv_topi (fun x20 ex20 => ?_)
          refine lv_aload_n hx hb dX11_paste_51 rfl (lv_at hl 0 rfl) ?_
          refine va_get (D := (dC, dI)) (ci := 11) (v := .ref a5) (C := RX11) (T := TX11) (N := 10) hx hb hwd inlX11 hown hK hP 0 rfl rfl 4 (by decide) (hwd _ kr2_8) (fun _ h9 => h9) rfl dX11_paste_52 ?_
          refine va_get (D := (dC, dI)) (ci := 8) (v := .ref a36) (C := RX8) (T := TX8) (N := 4) hx hb hwd inlX8 hown hK hP 4 rfl rfl 0 (by decide) (hwd _ kr68_10) (fun _ h9 => h9) rfl dX11_paste_55 ?_
          refine lv_iload_n hx hb dX11_paste_58 rfl (lv_at hl 3 rfl) ?_
          have h21 : vp_in p2 4 := (vp_of (by omega) (by omega))
          refine va_iald hx hb hK hP 1 0 rfl rfl h21 dX11_paste_59 ?_
          refine lv_topi (fun x22 ex22 => ?_)
          refine lv_icmp_eq (tgt := 66) hx hb dX11_paste_60 (by decide) (fun c23 => ?_) (fun c23 => ?_)
          · rw [ki_eq] at c23
            refine lv_aload_n hx hb dX11_paste_66 rfl (lv_at hl 0 rfl) ?_
            refine va_get (D := (dC, dI)) (ci := 11) (v := .ref a5) (C := RX11) (T := TX11) (N := 10) hx hb hwd inlX11 hown hK hP 0 rfl rfl 4 (by decide) (hwd _ kr2_8) (fun _ h9 => h9) rfl dX11_paste_67 ?_
            refine lv_iload_n hx hb dX11_paste_70 rfl (lv_at hl 1 rfl) ?_
            refine lv_iload_n hx hb dX11_paste_71 rfl (lv_at hl 2 rfl) ?_
            refine lv_iload hx hb dX11_paste_72 (lv_at hl 5 rfl) ?_
            have hPc := hP.sub (ws' := [(a5, .inr (8, [.ref a36, .ref a37, .ref a38, .ref a39])), (a37, .inl (cI, 4, .inl xF25))]) [4, 2] rfl
            have hDc := hD.sub (ws' := [(a5, .inr (8, [.ref a36, .ref a37, .ref a38, .ref a39])), (a37, .inl (cI, 4, .inl xF25))]) [4, 2] (by decide) rfl
            have hFc := va_free (wc := [(a5, .inr (8, [.ref a36, .ref a37, .ref a38, .ref a39])), (a37, .inl (cI, 4, .inl xF25))]) hD hS hA [4, 2] rfl
            refine va_calli (va_runV (As := [.int p0, .int p1, .int p4]) (rest := []) ⟨hx, hb, hml, hown, hwd⟩ (s_X8_holds l dC dI cI cZ cB cJ cM cG a5 a36 a37 a38 a39 xF25 p0 p1 p4 H.size (show rng xF25 4 0 60 from p_0) (show (0 : Int) ≤ p0.toInt ∧ p0.toInt ≤ 3 from ⟨by omega, by omega⟩)) (cwV 3 hwd (gV kr68_11 kr68_12 kr68_13 kr2_7 kr68_14) rfl rfl rfl (by decide +kernel) ⟨Nat.le_of_ble_eq_true rfl, Nat.le_of_ble_eq_true rfl⟩) (kPreV hPc hK hDc (ci := 8) (q0 := 0) rfl rfl) rfl rfl hl.1 rfl (lv_room (Nat.le_of_ble_eq_true rfl)) dX11_paste_74 ⟨Nat.le_of_ble_eq_true rfl, Nat.le_of_ble_eq_true rfl⟩) hS (fun q _ h => hFc q h) hFc (fun r24 u25 t H1 locs ht9 hvm hw hB hz1 hk1 hS => ?_)
            obtain ⟨hw26, hw27, -⟩ := hw
            have hw26 : (0 : Int) ≤ r24.toInt ∧ r24.toInt ≤ 1 := hw26
            obtain ⟨hP1, hD1⟩ := hB
            rw [ht9] at hP1
            obtain ⟨hP, hD⟩ := va_join (wr := [(a0, .inr (11, [.ref a1, .ref a2, .ref a3, .ref a4, .ref a5, .ref a6, .ref a7, .ref a8, .ref a9, .ref a10])), (a36, .inl (cI, 4, .inl xF24)), (a39, .inl (cJ, 240, .inr (.inl xG27))), (a38, .inl (cZ, 4, .inl xF26))]) (w1 := [(a5, .inr (8, [.ref a36, .ref a37, .ref a38, .ref a39])), (a37, .inl (cI, 4, .inl xF25))]) hP hD [4, 2] [0, 1, 3, 5] rfl rfl (by decide) (by decide) hk1 hFc hP1 hD1
            generalize H1 = H at hP hS ⊢
            have hP : va_P (dC, dI) vwCl [(a0, .inr (11, [.ref a1, .ref a2, .ref a3, .ref a4, .ref a5, .ref a6, .ref a7, .ref a8, .ref a9, .ref a10])), (a36, .inl (cI, 4, .inl xF24)), (a39, .inl (cJ, 240, .inr (.inl xG27))), (a38, .inl (cZ, 4, .inl xF26)), (a5, .inr (8, [.ref a36, .ref a37, .ref a38, .ref a39])), (a37, .inl (cI, 4, .inl xF25))] H := hP
            have hD : va_D A [(a0, .inr (11, [.ref a1, .ref a2, .ref a3, .ref a4, .ref a5, .ref a6, .ref a7, .ref a8, .ref a9, .ref a10])), (a36, .inl (cI, 4, .inl xF24)), (a39, .inl (cJ, 240, .inr (.inl xG27))), (a38, .inl (cZ, 4, .inl xF26)), (a5, .inr (8, [.ref a36, .ref a37, .ref a38, .ref a39])), (a37, .inl (cI, 4, .inl xF25))] := hD
            refine lv_if_eq (tgt := 95) hx hb dX11_paste_77 (by decide) (fun c28 => ?_) (fun c28 => ?_)
            · rw [ki_eq] at c28
              refine lv_bipush (v := (-7)) hx hb dX11_paste_95 (by decide) ?_
              have hP9 := hP.sub (ws' := [(a0, .inr (11, [.ref a1, .ref a2, .ref a3, .ref a4, .ref a5, .ref a6, .ref a7, .ref a8, .ref a9, .ref a10])), (a5, .inr (8, [.ref a36, .ref a37, .ref a38, .ref a39])), (a36, .inl (cI, 4, .inl xF24)), (a37, .inl (cI, 4, .inl xF25)), (a38, .inl (cZ, 4, .inl xF26)), (a39, .inl (cJ, 240, .inr (.inl xG27)))]) [0, 4, 1, 5, 3, 2] rfl
              have hD9 := hD.sub (ws' := [(a0, .inr (11, [.ref a1, .ref a2, .ref a3, .ref a4, .ref a5, .ref a6, .ref a7, .ref a8, .ref a9, .ref a10])), (a5, .inr (8, [.ref a36, .ref a37, .ref a38, .ref a39])), (a36, .inl (cI, 4, .inl xF24)), (a37, .inl (cI, 4, .inl xF25)), (a38, .inl (cZ, 4, .inl xF26)), (a39, .inl (cJ, 240, .inr (.inl xG27)))]) [0, 4, 1, 5, 3, 2] (by decide) rfl
              rw [hQ]
              exact W.iret (v := (-7)) hx hb hr (fun t ht hW => ⟨⟨(-7), (pickG 0 [], pickG (fun _ => 0) [], pickG (fun _ => 0) [xG27]), rfl, ⟨(show (-8 : Int) ≤ ((-7) : Int32).toInt ∧ ((-7) : Int32).toInt ≤ 0 from ⟨by omega, by omega⟩), trivial⟩, (by rw [ht]; exact hP9), hD9⟩, hS.F ht⟩) hS.2.2 dX11_paste_97
            · rw [ki_eq] at c28
              have hw27q := hw27 (by omega)
              clear hw27
              refine lv_aload_n hx hb dX11_paste_80 rfl (lv_at hl 0 rfl) ?_
              refine va_get (D := (dC, dI)) (ci := 11) (v := .ref a5) (C := RX11) (T := TX11) (N := 10) hx hb hwd inlX11 hown hK hP 0 rfl rfl 4 (by decide) (hwd _ kr2_8) (fun _ h9 => h9) rfl dX11_paste_81 ?_
              refine lv_iload_n hx hb dX11_paste_84 rfl (lv_at hl 3 rfl) ?_
              refine lv_iload hx hb dX11_paste_85 (lv_at hl 4 rfl) ?_
              refine lv_iload hx hb dX11_paste_87 (lv_at hl 5 rfl) ?_
              have hPc := hP.sub (ws' := [(a5, .inr (8, [.ref a36, .ref a37, .ref a38, .ref a39])), (a37, .inl (cI, 4, .inl xF25))]) [4, 5] rfl
              have hDc := hD.sub (ws' := [(a5, .inr (8, [.ref a36, .ref a37, .ref a38, .ref a39])), (a37, .inl (cI, 4, .inl xF25))]) [4, 5] (by decide) rfl
              have hFc := va_free (wc := [(a5, .inr (8, [.ref a36, .ref a37, .ref a38, .ref a39])), (a37, .inl (cI, 4, .inl xF25))]) hD hS hA [4, 5] rfl
              refine va_calli (va_runV (As := [.int p2, .int p3, .int p4]) (rest := []) ⟨hx, hb, hml, hown, hwd⟩ (s_X8_holds l dC dI cI cZ cB cJ cM cG a5 a36 a37 a38 a39 xF25 p2 p3 p4 H.size (show rng xF25 4 0 60 from p_0) (show (0 : Int) ≤ p2.toInt ∧ p2.toInt ≤ 3 from ⟨by omega, by omega⟩)) (cwV 3 hwd (gV kr68_11 kr68_12 kr68_13 kr2_7 kr68_14) rfl rfl rfl (by decide +kernel) ⟨Nat.le_of_ble_eq_true rfl, Nat.le_of_ble_eq_true rfl⟩) (kPreV hPc hK hDc (ci := 8) (q0 := 0) rfl rfl) rfl rfl hl.1 rfl (lv_room (Nat.le_of_ble_eq_true rfl)) dX11_paste_89 ⟨Nat.le_of_ble_eq_true rfl, Nat.le_of_ble_eq_true rfl⟩) hS (fun q _ h => hFc q h) hFc (fun r29 u30 t H1 locs ht9 hvm hw hB hz1 hk1 hS => ?_)
              obtain ⟨hw31, hw32, -⟩ := hw
              have hw31 : (0 : Int) ≤ r29.toInt ∧ r29.toInt ≤ 1 := hw31
              obtain ⟨hP1, hD1⟩ := hB
              rw [ht9] at hP1
              obtain ⟨hP, hD⟩ := va_join (wr := [(a0, .inr (11, [.ref a1, .ref a2, .ref a3, .ref a4, .ref a5, .ref a6, .ref a7, .ref a8, .ref a9, .ref a10])), (a36, .inl (cI, 4, .inl xF24)), (a39, .inl (cJ, 240, .inr (.inl xG27))), (a38, .inl (cZ, 4, .inl xF26))]) (w1 := [(a5, .inr (8, [.ref a36, .ref a37, .ref a38, .ref a39])), (a37, .inl (cI, 4, .inl xF25))]) hP hD [4, 5] [0, 1, 2, 3] rfl rfl (by decide) (by decide) hk1 hFc hP1 hD1
              generalize H1 = H at hP hS ⊢
              have hP : va_P (dC, dI) vwCl [(a0, .inr (11, [.ref a1, .ref a2, .ref a3, .ref a4, .ref a5, .ref a6, .ref a7, .ref a8, .ref a9, .ref a10])), (a36, .inl (cI, 4, .inl xF24)), (a39, .inl (cJ, 240, .inr (.inl xG27))), (a38, .inl (cZ, 4, .inl xF26)), (a5, .inr (8, [.ref a36, .ref a37, .ref a38, .ref a39])), (a37, .inl (cI, 4, .inl xF25))] H := hP
              have hD : va_D A [(a0, .inr (11, [.ref a1, .ref a2, .ref a3, .ref a4, .ref a5, .ref a6, .ref a7, .ref a8, .ref a9, .ref a10])), (a36, .inl (cI, 4, .inl xF24)), (a39, .inl (cJ, 240, .inr (.inl xG27))), (a38, .inl (cZ, 4, .inl xF26)), (a5, .inr (8, [.ref a36, .ref a37, .ref a38, .ref a39])), (a37, .inl (cI, 4, .inl xF25))] := hD
              refine lv_if_ne (tgt := 98) hx hb dX11_paste_92 (by decide) (fun c33 => ?_) (fun c33 => ?_)
              · rw [ki_eq] at c33
                have hw32q := hw32 (by omega)
                clear hw32
                refine lv_aload_n hx hb dX11_paste_98 rfl (lv_at hl 0 rfl) ?_
                refine va_get (D := (dC, dI)) (ci := 11) (v := .ref a5) (C := RX11) (T := TX11) (N := 10) hx hb hwd inlX11 hown hK hP 0 rfl rfl 4 (by decide) (hwd _ kr2_8) (fun _ h9 => h9) rfl dX11_paste_99 ?_
                refine lv_iload_n hx hb dX11_paste_102 rfl (lv_at hl 1 rfl) ?_
                refine lv_iload_n hx hb dX11_paste_103 rfl (lv_at hl 2 rfl) ?_
                refine lv_iload_n hx hb dX11_paste_104 rfl (lv_at hl 3 rfl) ?_
                refine lv_iload hx hb dX11_paste_105 (lv_at hl 4 rfl) ?_
                refine lv_iload hx hb dX11_paste_107 (lv_at hl 5 rfl) ?_
                have hPc := hP.sub (ws' := [(a5, .inr (8, [.ref a36, .ref a37, .ref a38, .ref a39])), (a39, .inl (cJ, 240, .inr (.inl xG27)))]) [4, 2] rfl
                have hDc := hD.sub (ws' := [(a5, .inr (8, [.ref a36, .ref a37, .ref a38, .ref a39])), (a39, .inl (cJ, 240, .inr (.inl xG27)))]) [4, 2] (by decide) rfl
                have hFc := va_free (wc := [(a5, .inr (8, [.ref a36, .ref a37, .ref a38, .ref a39])), (a39, .inl (cJ, 240, .inr (.inl xG27)))]) hD hS hA [4, 2] rfl
                refine va_callv (va_runV (As := [.int p0, .int p1, .int p2, .int p3, .int p4]) (rest := []) ⟨hx, hb, hml, hown, hwd⟩ (s_X8_copyNumbers l dC dI cI cZ cB cJ cM cG a5 a36 a37 a38 a39 xG27 p0 p1 p2 p3 p4 H.size (by omega) (show (0 : Int) ≤ p0.toInt ∧ p0.toInt ≤ 3 from ⟨by omega, by omega⟩) (show (0 : Int) ≤ p1.toInt ∧ p1.toInt ≤ 60 from ⟨by omega, by omega⟩) (show (0 : Int) ≤ p2.toInt ∧ p2.toInt ≤ 3 from ⟨by omega, by omega⟩) (show (0 : Int) ≤ p3.toInt ∧ p3.toInt ≤ 60 from ⟨by omega, by omega⟩) (show (0 : Int) ≤ p4.toInt ∧ p4.toInt ≤ 60 from ⟨by omega, by omega⟩)) (cwV 5 hwd (gV kr68_15 kr68_16 kr68_17 kr2_7 kr68_18) rfl rfl rfl (by decide +kernel) ⟨Nat.le_of_ble_eq_true rfl, Nat.le_of_ble_eq_true rfl⟩) (kPreV hPc hK hDc (ci := 8) (q0 := 0) rfl rfl) rfl rfl hl.1 rfl (lv_room (Nat.le_of_ble_eq_true rfl)) dX11_paste_109 ⟨Nat.le_of_ble_eq_true rfl, Nat.le_of_ble_eq_true rfl⟩) hS (fun q _ h => hFc q h) hFc (fun u35 t H1 locs ht9 hvm hw hB hz1 hk1 hS => ?_)
                obtain ⟨u36, U36, V36⟩ := u35
                obtain ⟨hP1, hD1⟩ := hB
                rw [ht9] at hP1
                obtain ⟨hP, hD⟩ := va_join (wr := [(a0, .inr (11, [.ref a1, .ref a2, .ref a3, .ref a4, .ref a5, .ref a6, .ref a7, .ref a8, .ref a9, .ref a10])), (a36, .inl (cI, 4, .inl xF24)), (a38, .inl (cZ, 4, .inl xF26)), (a37, .inl (cI, 4, .inl xF25))]) (w1 := [(a5, .inr (8, [.ref a36, .ref a37, .ref a38, .ref a39])), (a39, .inl (cJ, 240, .inr (.inl (V36 0))))]) hP hD [4, 2] [0, 1, 3, 5] rfl rfl (by decide) (by decide) hk1 hFc hP1 hD1
                generalize H1 = H at hP hS ⊢
                have hP : va_P (dC, dI) vwCl [(a0, .inr (11, [.ref a1, .ref a2, .ref a3, .ref a4, .ref a5, .ref a6, .ref a7, .ref a8, .ref a9, .ref a10])), (a36, .inl (cI, 4, .inl xF24)), (a38, .inl (cZ, 4, .inl xF26)), (a37, .inl (cI, 4, .inl xF25)), (a5, .inr (8, [.ref a36, .ref a37, .ref a38, .ref a39])), (a39, .inl (cJ, 240, .inr (.inl (V36 0))))] H := hP
                have hD : va_D A [(a0, .inr (11, [.ref a1, .ref a2, .ref a3, .ref a4, .ref a5, .ref a6, .ref a7, .ref a8, .ref a9, .ref a10])), (a36, .inl (cI, 4, .inl xF24)), (a38, .inl (cZ, 4, .inl xF26)), (a37, .inl (cI, 4, .inl xF25)), (a5, .inr (8, [.ref a36, .ref a37, .ref a38, .ref a39])), (a39, .inl (cJ, 240, .inr (.inl (V36 0))))] := hD
                refine lv_iconst (v := 0) hx hb dX11_paste_112 (by decide) ?_
                have hP9 := hP.sub (ws' := [(a0, .inr (11, [.ref a1, .ref a2, .ref a3, .ref a4, .ref a5, .ref a6, .ref a7, .ref a8, .ref a9, .ref a10])), (a5, .inr (8, [.ref a36, .ref a37, .ref a38, .ref a39])), (a36, .inl (cI, 4, .inl xF24)), (a37, .inl (cI, 4, .inl xF25)), (a38, .inl (cZ, 4, .inl xF26)), (a39, .inl (cJ, 240, .inr (.inl (V36 0))))]) [0, 4, 1, 3, 2, 5] rfl
                have hD9 := hD.sub (ws' := [(a0, .inr (11, [.ref a1, .ref a2, .ref a3, .ref a4, .ref a5, .ref a6, .ref a7, .ref a8, .ref a9, .ref a10])), (a5, .inr (8, [.ref a36, .ref a37, .ref a38, .ref a39])), (a36, .inl (cI, 4, .inl xF24)), (a37, .inl (cI, 4, .inl xF25)), (a38, .inl (cZ, 4, .inl xF26)), (a39, .inl (cJ, 240, .inr (.inl (V36 0))))]) [0, 4, 1, 3, 2, 5] (by decide) rfl
                rw [hQ]
                exact W.iret (v := 0) hx hb hr (fun t ht hW => ⟨⟨0, (pickG 0 [], pickG (fun _ => 0) [], pickG (fun _ => 0) [(V36 0)]), rfl, ⟨(show (-8 : Int) ≤ (0 : Int32).toInt ∧ (0 : Int32).toInt ≤ 0 from ⟨by omega, by omega⟩), trivial⟩, (by rw [ht]; exact hP9), hD9⟩, hS.F ht⟩) hS.2.2 dX11_paste_113
              · rw [ki_eq] at c33
                refine lv_bipush (v := (-7)) hx hb dX11_paste_95 (by decide) ?_
                have hP9 := hP.sub (ws' := [(a0, .inr (11, [.ref a1, .ref a2, .ref a3, .ref a4, .ref a5, .ref a6, .ref a7, .ref a8, .ref a9, .ref a10])), (a5, .inr (8, [.ref a36, .ref a37, .ref a38, .ref a39])), (a36, .inl (cI, 4, .inl xF24)), (a37, .inl (cI, 4, .inl xF25)), (a38, .inl (cZ, 4, .inl xF26)), (a39, .inl (cJ, 240, .inr (.inl xG27)))]) [0, 4, 1, 5, 3, 2] rfl
                have hD9 := hD.sub (ws' := [(a0, .inr (11, [.ref a1, .ref a2, .ref a3, .ref a4, .ref a5, .ref a6, .ref a7, .ref a8, .ref a9, .ref a10])), (a5, .inr (8, [.ref a36, .ref a37, .ref a38, .ref a39])), (a36, .inl (cI, 4, .inl xF24)), (a37, .inl (cI, 4, .inl xF25)), (a38, .inl (cZ, 4, .inl xF26)), (a39, .inl (cJ, 240, .inr (.inl xG27)))]) [0, 4, 1, 5, 3, 2] (by decide) rfl
                rw [hQ]
                exact W.iret (v := (-7)) hx hb hr (fun t ht hW => ⟨⟨(-7), (pickG 0 [], pickG (fun _ => 0) [], pickG (fun _ => 0) [xG27]), rfl, ⟨(show (-8 : Int) ≤ ((-7) : Int32).toInt ∧ ((-7) : Int32).toInt ≤ 0 from ⟨by omega, by omega⟩), trivial⟩, (by rw [ht]; exact hP9), hD9⟩, hS.F ht⟩) hS.2.2 dX11_paste_97
          · rw [ki_eq] at c23
            refine lv_bipush (v := (-8)) hx hb dX11_paste_63 (by decide) ?_
            have hP9 := hP.sub (ws' := [(a0, .inr (11, [.ref a1, .ref a2, .ref a3, .ref a4, .ref a5, .ref a6, .ref a7, .ref a8, .ref a9, .ref a10])), (a5, .inr (8, [.ref a36, .ref a37, .ref a38, .ref a39])), (a36, .inl (cI, 4, .inl xF24)), (a37, .inl (cI, 4, .inl xF25)), (a38, .inl (cZ, 4, .inl xF26)), (a39, .inl (cJ, 240, .inr (.inl xG27)))]) [0, 4, 1, 2, 5, 3] rfl
            have hD9 := hD.sub (ws' := [(a0, .inr (11, [.ref a1, .ref a2, .ref a3, .ref a4, .ref a5, .ref a6, .ref a7, .ref a8, .ref a9, .ref a10])), (a5, .inr (8, [.ref a36, .ref a37, .ref a38, .ref a39])), (a36, .inl (cI, 4, .inl xF24)), (a37, .inl (cI, 4, .inl xF25)), (a38, .inl (cZ, 4, .inl xF26)), (a39, .inl (cJ, 240, .inr (.inl xG27)))]) [0, 4, 1, 2, 5, 3] (by decide) rfl
            rw [hQ]
            exact W.iret (v := (-8)) hx hb hr (fun t ht hW => ⟨⟨(-8), (pickG 0 [], pickG (fun _ => 0) [], pickG (fun _ => 0) [xG27]), rfl, ⟨(show (-8 : Int) ≤ ((-8) : Int32).toInt ∧ ((-8) : Int32).toInt ≤ 0 from ⟨by omega, by omega⟩), trivial⟩, (by rw [ht]; exact hP9), hD9⟩, hS.F ht⟩) hS.2.2 dX11_paste_65
        · rw [ki_eq] at c18
          refine lv_bipush (v := (-6)) hx hb dX11_paste_39 (by decide) ?_
          have hP9 := hP.sub (ws' := [(a0, .inr (11, [.ref a1, .ref a2, .ref a3, .ref a4, .ref a5, .ref a6, .ref a7, .ref a8, .ref a9, .ref a10])), (a5, .inr (8, [.ref a36, .ref a37, .ref a38, .ref a39])), (a36, .inl (cI, 4, .inl xF24)), (a37, .inl (cI, 4, .inl xF25)), (a38, .inl (cZ, 4, .inl xF26)), (a39, .inl (cJ, 240, .inr (.inl xG27)))]) [0, 4, 1, 2, 5, 3] rfl
          have hD9 := hD.sub (ws' := [(a0, .inr (11, [.ref a1, .ref a2, .ref a3, .ref a4, .ref a5, .ref a6, .ref a7, .ref a8, .ref a9, .ref a10])), (a5, .inr (8, [.ref a36, .ref a37, .ref a38, .ref a39])), (a36, .inl (cI, 4, .inl xF24)), (a37, .inl (cI, 4, .inl xF25)), (a38, .inl (cZ, 4, .inl xF26)), (a39, .inl (cJ, 240, .inr (.inl xG27)))]) [0, 4, 1, 2, 5, 3] (by decide) rfl
          rw [hQ]
          exact W.iret (v := (-6)) hx hb hr (fun t ht hW => ⟨⟨(-6), (pickG 0 [], pickG (fun _ => 0) [], pickG (fun _ => 0) [xG27]), rfl, ⟨(show (-8 : Int) ≤ ((-6) : Int32).toInt ∧ ((-6) : Int32).toInt ≤ 0 from ⟨by omega, by omega⟩), trivial⟩, (by rw [ht]; exact hP9), hD9⟩, hS.F ht⟩) hS.2.2 dX11_paste_41
    · rw [ki_eq] at c10
      refine lv_bipush (v := (-2)) hx hb dX11_paste_14 (by decide) ?_
      have hP9 := hP.sub (ws' := [(a0, .inr (11, [.ref a1, .ref a2, .ref a3, .ref a4, .ref a5, .ref a6, .ref a7, .ref a8, .ref a9, .ref a10])), (a5, .inr (8, [.ref a36, .ref a37, .ref a38, .ref a39])), (a36, .inl (cI, 4, .inl xF24)), (a37, .inl (cI, 4, .inl xF25)), (a38, .inl (cZ, 4, .inl xF26)), (a39, .inl (cJ, 240, .inr (.inl xG27)))]) [0, 1, 2, 3, 4, 5] rfl
      have hD9 := hD.sub (ws' := [(a0, .inr (11, [.ref a1, .ref a2, .ref a3, .ref a4, .ref a5, .ref a6, .ref a7, .ref a8, .ref a9, .ref a10])), (a5, .inr (8, [.ref a36, .ref a37, .ref a38, .ref a39])), (a36, .inl (cI, 4, .inl xF24)), (a37, .inl (cI, 4, .inl xF25)), (a38, .inl (cZ, 4, .inl xF26)), (a39, .inl (cJ, 240, .inr (.inl xG27)))]) [0, 1, 2, 3, 4, 5] (by decide) rfl
      rw [hQ]
      exact W.iret (v := (-2)) hx hb hr (fun t ht hW => ⟨⟨(-2), (pickG 0 [], pickG (fun _ => 0) [], pickG (fun _ => 0) [xG27]), rfl, ⟨(show (-8 : Int) ≤ ((-2) : Int32).toInt ∧ ((-2) : Int32).toInt ≤ 0 from ⟨by omega, by omega⟩), trivial⟩, (by rw [ht]; exact hP9), hD9⟩, hS.F ht⟩) hS.2.2 dX11_paste_16
theorem dX11_fewest_0 : decode cX11_fewest 0 = .ok (.aload_n 0, 1) := by decide +kernel
theorem dX11_fewest_1 : decode cX11_fewest 1 = .ok (.iload_n 1, 1) := by decide +kernel
theorem dX11_fewest_2 : decode cX11_fewest 2 = .ok (.invokevirtual 330, 3) := by decide +kernel
theorem dX11_fewest_5 : decode cX11_fewest 5 = .ok (.istore_n 2, 1) := by decide +kernel
theorem dX11_fewest_6 : decode cX11_fewest 6 = .ok (.iload_n 2, 1) := by decide +kernel
theorem dX11_fewest_7 : decode cX11_fewest 7 = .ok (.ifCond .eq 7, 3) := by decide +kernel
theorem dX11_fewest_10 : decode cX11_fewest 10 = .ok (.iload_n 2, 1) := by decide +kernel
theorem dX11_fewest_11 : decode cX11_fewest 11 = .ok (.goto 17, 3) := by decide +kernel
theorem dX11_fewest_14 : decode cX11_fewest 14 = .ok (.aload_n 0, 1) := by decide +kernel
theorem dX11_fewest_15 : decode cX11_fewest 15 = .ok (.getfield 47, 3) := by decide +kernel
theorem dX11_fewest_18 : decode cX11_fewest 18 = .ok (.aload_n 0, 1) := by decide +kernel
theorem dX11_fewest_19 : decode cX11_fewest 19 = .ok (.getfield 62, 3) := by decide +kernel
theorem dX11_fewest_22 : decode cX11_fewest 22 = .ok (.getfield 155, 3) := by decide +kernel
theorem dX11_fewest_25 : decode cX11_fewest 25 = .ok (.invokevirtual 333, 3) := by decide +kernel
theorem dX11_fewest_28 : decode cX11_fewest 28 = .ok (.ireturn, 1) := by decide +kernel
set_option maxHeartbeats 4000000 in
set_option maxRecDepth 100000 in
theorem s_X11_fewest (l : Launch) (dC : Nat → ClassId) (dI : Nat → Nat → Nat) (cI cZ cB cJ cM cG : ClassId) (a0 a1 a2 a3 a4 a5 a6 a7 a8 a9 a10 a36 a37 a38 a39 a40 a41 a42 a121 a122 a123 a124 a125 : Nat) (i16 i77 i78 i79 i80 i81 i82 i83 i84 i85 : Int32) (xF25 xF26 xF28 xF29 xF30 : Nat → Int32) (xG27 : Nat → Int64) (p0 : Int32) (sz : Nat) (p_0 : rng xF25 4 0 60) (p_1 : rng xF26 4 0 1) (p_2 : (0 : Int) ≤ i16.toInt ∧ i16.toInt ≤ 8) (p_3 : (0 : Int) ≤ i77.toInt ∧ i77.toInt ≤ 60) (p_4 : (0 : Int) ≤ i80.toInt ∧ i80.toInt ≤ 6) (p_5 : (0 : Int) ≤ i82.toInt ∧ i82.toInt ≤ 1) (p_6 : (0 : Int) ≤ i85.toInt ∧ i85.toInt ≤ 1) : Met l yX11_fewest (kw yX11_fewest cX11_fewest 3 (some .int)) ({ frames := 10, cells := 0, slots := 0, locals := 247 } : Room) (va_Pc [.ref a0, .int p0] (kPre dC dI [(cI, .int), (cZ, .boolean), (cB, .byte), (cJ, .long), (cM, .object RX2), (cG, .array .int)] [(a0, .inr (11, [.ref a1, .ref a2, .ref a3, .ref a4, .ref a5, .ref a6, .ref a7, .ref a8, .ref a9, .ref a10])), (a5, .inr (8, [.ref a36, .ref a37, .ref a38, .ref a39])), (a37, .inl (cI, 4, .inl xF25)), (a38, .inl (cZ, 4, .inl xF26)), (a39, .inl (cJ, 240, .inr (.inl xG27))), (a6, .inr (6, [.int i16, .ref a40, .ref a41, .ref a42])), (a40, .inl (cI, 8, .inl xF28)), (a41, .inl (cI, 8, .inl xF29)), (a42, .inl (cI, 8, .inl xF30)), (a9, .inr (2, [.int i77, .int i78, .int i79, .int i80, .int i81, .int i82, .int i83, .int i84, .int i85, .ref a121, .ref a122, .ref a123, .ref a124, .ref a125]))] sz)) (va_Qi (fun (r : Int32) (u9 : (Nat → Int32) × (Nat → Nat → Int32) × (Nat → Nat → Int64)) => ((-6 : Int) ≤ r.toInt ∧ r.toInt ≤ 8) ∧ ((0 : Int) ≤ (u9.1 0).toInt ∧ (u9.1 0).toInt ≤ 8) ∧ True) (fun u9 t => va_P (dC, dI) vwCl [(a0, .inr (11, [.ref a1, .ref a2, .ref a3, .ref a4, .ref a5, .ref a6, .ref a7, .ref a8, .ref a9, .ref a10])), (a5, .inr (8, [.ref a36, .ref a37, .ref a38, .ref a39])), (a37, .inl (cI, 4, .inl xF25)), (a38, .inl (cZ, 4, .inl xF26)), (a39, .inl (cJ, 240, .inr (.inl xG27))), (a6, .inr (6, [.int (u9.1 0), .ref a40, .ref a41, .ref a42])), (a40, .inl (cI, 8, .inl (u9.2.1 0))), (a41, .inl (cI, 8, .inl (u9.2.1 1))), (a42, .inl (cI, 8, .inl (u9.2.1 2))), (a9, .inr (2, [.int i77, .int i78, .int i79, .int i80, .int i81, .int i82, .int i83, .int i84, .int i85, .ref a121, .ref a122, .ref a123, .ref a124, .ref a125]))] t.heap ∧ va_D (va_A [(a0, .inr (11, [.ref a1, .ref a2, .ref a3, .ref a4, .ref a5, .ref a6, .ref a7, .ref a8, .ref a9, .ref a10])), (a5, .inr (8, [.ref a36, .ref a37, .ref a38, .ref a39])), (a37, .inl (cI, 4, .inl xF25)), (a38, .inl (cZ, 4, .inl xF26)), (a39, .inl (cJ, 240, .inr (.inl xG27))), (a6, .inr (6, [.int i16, .ref a40, .ref a41, .ref a42])), (a40, .inl (cI, 8, .inl xF28)), (a41, .inl (cI, 8, .inl xF29)), (a42, .inl (cI, 8, .inl xF30)), (a9, .inr (2, [.int i77, .int i78, .int i79, .int i80, .int i81, .int i82, .int i83, .int i84, .int i85, .ref a121, .ref a122, .ref a123, .ref a124, .ref a125]))] sz) [(a0, .inr (11, [.ref a1, .ref a2, .ref a3, .ref a4, .ref a5, .ref a6, .ref a7, .ref a8, .ref a9, .ref a10])), (a5, .inr (8, [.ref a36, .ref a37, .ref a38, .ref a39])), (a37, .inl (cI, 4, .inl xF25)), (a38, .inl (cZ, 4, .inl xF26)), (a39, .inl (cJ, 240, .inr (.inl xG27))), (a6, .inr (6, [.int (u9.1 0), .ref a40, .ref a41, .ref a42])), (a40, .inl (cI, 8, .inl (u9.2.1 0))), (a41, .inl (cI, 8, .inl (u9.2.1 1))), (a42, .inl (cI, 8, .inl (u9.2.1 2))), (a9, .inr (2, [.int i77, .int i78, .int i79, .int i80, .int i81, .int i82, .int i83, .int i84, .int i85, .ref a121, .ref a122, .ref a123, .ref a124, .ref a125]))]) (va_A [(a0, .inr (11, [.ref a1, .ref a2, .ref a3, .ref a4, .ref a5, .ref a6, .ref a7, .ref a8, .ref a9, .ref a10])), (a5, .inr (8, [.ref a36, .ref a37, .ref a38, .ref a39])), (a37, .inl (cI, 4, .inl xF25)), (a38, .inl (cZ, 4, .inl xF26)), (a39, .inl (cJ, 240, .inr (.inl xG27))), (a6, .inr (6, [.int i16, .ref a40, .ref a41, .ref a42])), (a40, .inl (cI, 8, .inl xF28)), (a41, .inl (cI, 8, .inl xF29)), (a42, .inl (cI, 8, .inl xF30)), (a9, .inr (2, [.int i77, .int i78, .int i79, .int i80, .int i81, .int i82, .int i83, .int i84, .int i85, .ref a121, .ref a122, .ref a123, .ref a124, .ref a125]))] sz)) 0 0 (va_A [(a0, .inr (11, [.ref a1, .ref a2, .ref a3, .ref a4, .ref a5, .ref a6, .ref a7, .ref a8, .ref a9, .ref a10])), (a5, .inr (8, [.ref a36, .ref a37, .ref a38, .ref a39])), (a37, .inl (cI, 4, .inl xF25)), (a38, .inl (cZ, 4, .inl xF26)), (a39, .inl (cJ, 240, .inr (.inl xG27))), (a6, .inr (6, [.int i16, .ref a40, .ref a41, .ref a42])), (a40, .inl (cI, 8, .inl xF28)), (a41, .inl (cI, 8, .inl xF29)), (a42, .inl (cI, 8, .inl xF30)), (a9, .inr (2, [.int i77, .int i78, .int i79, .int i80, .int i81, .int i82, .int i83, .int i84, .int i85, .ref a121, .ref a122, .ref a123, .ref a124, .ref a125]))] sz) := by
  refine kEnter (by decide) (Nat.le_of_ble_eq_true rfl) ?_
  intro p e s m below meth c ls hx hb hr hml hown hlocks hin hwd hsz hP hK hD hl
  subst hsz
  generalize hAe : va_A [(a0, .inr (11, [.ref a1, .ref a2, .ref a3, .ref a4, .ref a5, .ref a6, .ref a7, .ref a8, .ref a9, .ref a10])), (a5, .inr (8, [.ref a36, .ref a37, .ref a38, .ref a39])), (a37, .inl (cI, 4, .inl xF25)), (a38, .inl (cZ, 4, .inl xF26)), (a39, .inl (cJ, 240, .inr (.inl xG27))), (a6, .inr (6, [.int i16, .ref a40, .ref a41, .ref a42])), (a40, .inl (cI, 8, .inl xF28)), (a41, .inl (cI, 8, .inl xF29)), (a42, .inl (cI, 8, .inl xF30)), (a9, .inr (2, [.int i77, .int i78, .int i79, .int i80, .int i81, .int i82, .int i83, .int i84, .int i85, .ref a121, .ref a122, .ref a123, .ref a124, .ref a125]))] s.heap.size = A at hD ⊢
  have hA : ∀ q : Nat, s.heap.size ≤ q → A q := fun q h => by rw [← hAe]; exact Or.inr h
  have hS : va_S A s.heap s.heap [] := va_S.rf
  have hl : lv_has ls 3 [(0, .ref a0), (1, .int p0)] := hl
  obtain ⟨Q, hQ⟩ : ∃ Q, Q = MQ below (va_Qi (fun (r : Int32) (u9 : (Nat → Int32) × (Nat → Nat → Int32) × (Nat → Nat → Int64)) => ((-6 : Int) ≤ r.toInt ∧ r.toInt ≤ 8) ∧ ((0 : Int) ≤ (u9.1 0).toInt ∧ (u9.1 0).toInt ≤ 8) ∧ True) (fun u9 t => va_P (dC, dI) vwCl [(a0, .inr (11, [.ref a1, .ref a2, .ref a3, .ref a4, .ref a5, .ref a6, .ref a7, .ref a8, .ref a9, .ref a10])), (a5, .inr (8, [.ref a36, .ref a37, .ref a38, .ref a39])), (a37, .inl (cI, 4, .inl xF25)), (a38, .inl (cZ, 4, .inl xF26)), (a39, .inl (cJ, 240, .inr (.inl xG27))), (a6, .inr (6, [.int (u9.1 0), .ref a40, .ref a41, .ref a42])), (a40, .inl (cI, 8, .inl (u9.2.1 0))), (a41, .inl (cI, 8, .inl (u9.2.1 1))), (a42, .inl (cI, 8, .inl (u9.2.1 2))), (a9, .inr (2, [.int i77, .int i78, .int i79, .int i80, .int i81, .int i82, .int i83, .int i84, .int i85, .ref a121, .ref a122, .ref a123, .ref a124, .ref a125]))] t.heap ∧ va_D A [(a0, .inr (11, [.ref a1, .ref a2, .ref a3, .ref a4, .ref a5, .ref a6, .ref a7, .ref a8, .ref a9, .ref a10])), (a5, .inr (8, [.ref a36, .ref a37, .ref a38, .ref a39])), (a37, .inl (cI, 4, .inl xF25)), (a38, .inl (cZ, 4, .inl xF26)), (a39, .inl (cJ, 240, .inr (.inl xG27))), (a6, .inr (6, [.int (u9.1 0), .ref a40, .ref a41, .ref a42])), (a40, .inl (cI, 8, .inl (u9.2.1 0))), (a41, .inl (cI, 8, .inl (u9.2.1 1))), (a42, .inl (cI, 8, .inl (u9.2.1 2))), (a9, .inr (2, [.int i77, .int i78, .int i79, .int i80, .int i81, .int i82, .int i83, .int i84, .int i85, .ref a121, .ref a122, .ref a123, .ref a124, .ref a125]))]) A) ([.ref a0, .int p0] : List Value).toArray s 0 0 A := ⟨_, rfl⟩
  rw [← hQ]
  have k0 : (0 : Int32).toInt = 0 := by decide
  refine lv_aload_n hx hb dX11_fewest_0 rfl (lv_at hl 0 rfl) ?_
  refine lv_iload_n hx hb dX11_fewest_1 rfl (lv_at hl 1 rfl) ?_
  have hPc := hP.sub (ws' := [(a0, .inr (11, [.ref a1, .ref a2, .ref a3, .ref a4, .ref a5, .ref a6, .ref a7, .ref a8, .ref a9, .ref a10])), (a5, .inr (8, [.ref a36, .ref a37, .ref a38, .ref a39])), (a37, .inl (cI, 4, .inl xF25)), (a38, .inl (cZ, 4, .inl xF26)), (a39, .inl (cJ, 240, .inr (.inl xG27))), (a6, .inr (6, [.int i16, .ref a40, .ref a41, .ref a42])), (a40, .inl (cI, 8, .inl xF28)), (a9, .inr (2, [.int i77, .int i78, .int i79, .int i80, .int i81, .int i82, .int i83, .int i84, .int i85, .ref a121, .ref a122, .ref a123, .ref a124, .ref a125]))]) [0, 1, 2, 3, 4, 5, 6, 9] rfl
  have hDc := hD.sub (ws' := [(a0, .inr (11, [.ref a1, .ref a2, .ref a3, .ref a4, .ref a5, .ref a6, .ref a7, .ref a8, .ref a9, .ref a10])), (a5, .inr (8, [.ref a36, .ref a37, .ref a38, .ref a39])), (a37, .inl (cI, 4, .inl xF25)), (a38, .inl (cZ, 4, .inl xF26)), (a39, .inl (cJ, 240, .inr (.inl xG27))), (a6, .inr (6, [.int i16, .ref a40, .ref a41, .ref a42])), (a40, .inl (cI, 8, .inl xF28)), (a9, .inr (2, [.int i77, .int i78, .int i79, .int i80, .int i81, .int i82, .int i83, .int i84, .int i85, .ref a121, .ref a122, .ref a123, .ref a124, .ref a125]))]) [0, 1, 2, 3, 4, 5, 6, 9] (by decide) rfl
  have hFc := va_free (wc := [(a0, .inr (11, [.ref a1, .ref a2, .ref a3, .ref a4, .ref a5, .ref a6, .ref a7, .ref a8, .ref a9, .ref a10])), (a5, .inr (8, [.ref a36, .ref a37, .ref a38, .ref a39])), (a37, .inl (cI, 4, .inl xF25)), (a38, .inl (cZ, 4, .inl xF26)), (a39, .inl (cJ, 240, .inr (.inl xG27))), (a6, .inr (6, [.int i16, .ref a40, .ref a41, .ref a42])), (a40, .inl (cI, 8, .inl xF28)), (a9, .inr (2, [.int i77, .int i78, .int i79, .int i80, .int i81, .int i82, .int i83, .int i84, .int i85, .ref a121, .ref a122, .ref a123, .ref a124, .ref a125]))]) hD hS hA [0, 1, 2, 3, 4, 5, 6, 9] rfl
  refine va_calli (va_runV (As := [.int p0]) (rest := []) ⟨hx, hb, hml, hown, hwd⟩ (s_X11_takeMotions l dC dI cI cZ cB cJ cM cG a0 a1 a2 a3 a4 a5 a6 a7 a8 a9 a10 a36 a37 a38 a39 a40 a41 a42 a121 a122 a123 a124 a125 i16 i77 i78 i79 i80 i81 i82 i83 i84 i85 xF25 xF26 xF28 xG27 p0 s.heap.size (show rng xF25 4 0 60 from p_0) (show rng xF26 4 0 1 from p_1) (show (0 : Int) ≤ i16.toInt ∧ i16.toInt ≤ 8 from ⟨by omega, by omega⟩) (show (0 : Int) ≤ i77.toInt ∧ i77.toInt ≤ 60 from ⟨by omega, by omega⟩) (show (0 : Int) ≤ i80.toInt ∧ i80.toInt ≤ 6 from ⟨by omega, by omega⟩) (show (0 : Int) ≤ i82.toInt ∧ i82.toInt ≤ 1 from ⟨by omega, by omega⟩) (show (0 : Int) ≤ i85.toInt ∧ i85.toInt ≤ 1 from ⟨by omega, by omega⟩)) (cwV 1 hwd (gV kr53_22 kr53_23 kr54_0 kr1_2 kr54_1) rfl rfl rfl (by decide +kernel) ⟨Nat.le_of_ble_eq_true rfl, Nat.le_of_ble_eq_true rfl⟩) (kPreV hPc hK hDc (ci := 11) (q0 := 0) rfl rfl) rfl rfl hl.1 rfl (lv_room (Nat.le_of_ble_eq_true rfl)) dX11_fewest_2 ⟨Nat.le_of_ble_eq_true rfl, Nat.le_of_ble_eq_true rfl⟩) hS (fun q _ h => hFc q h) hFc (fun r1 u2 t H1 locs ht9 hvm hw hB hz1 hk1 hS => ?_)
  obtain ⟨u3, U3, V3⟩ := u2
  obtain ⟨hw4, hw5, -⟩ := hw
  have hw4 : (-6 : Int) ≤ r1.toInt ∧ r1.toInt ≤ 0 := hw4
  have hw5 : (0 : Int) ≤ (u3 0).toInt ∧ (u3 0).toInt ≤ 8 := hw5
  obtain ⟨hP1, hD1⟩ := hB
  rw [ht9] at hP1
  obtain ⟨hP, hD⟩ := va_join (wr := [(a41, .inl (cI, 8, .inl xF29)), (a42, .inl (cI, 8, .inl xF30))]) (w1 := [(a0, .inr (11, [.ref a1, .ref a2, .ref a3, .ref a4, .ref a5, .ref a6, .ref a7, .ref a8, .ref a9, .ref a10])), (a5, .inr (8, [.ref a36, .ref a37, .ref a38, .ref a39])), (a37, .inl (cI, 4, .inl xF25)), (a38, .inl (cZ, 4, .inl xF26)), (a39, .inl (cJ, 240, .inr (.inl xG27))), (a6, .inr (6, [.int (u3 0), .ref a40, .ref a41, .ref a42])), (a40, .inl (cI, 8, .inl (U3 0))), (a9, .inr (2, [.int i77, .int i78, .int i79, .int i80, .int i81, .int i82, .int i83, .int i84, .int i85, .ref a121, .ref a122, .ref a123, .ref a124, .ref a125]))]) hP hD [0, 1, 2, 3, 4, 5, 6, 9] [7, 8] rfl rfl (by decide) (by decide) hk1 hFc hP1 hD1
  generalize H1 = H at hP hS ⊢
  have hP : va_P (dC, dI) vwCl [(a41, .inl (cI, 8, .inl xF29)), (a42, .inl (cI, 8, .inl xF30)), (a0, .inr (11, [.ref a1, .ref a2, .ref a3, .ref a4, .ref a5, .ref a6, .ref a7, .ref a8, .ref a9, .ref a10])), (a5, .inr (8, [.ref a36, .ref a37, .ref a38, .ref a39])), (a37, .inl (cI, 4, .inl xF25)), (a38, .inl (cZ, 4, .inl xF26)), (a39, .inl (cJ, 240, .inr (.inl xG27))), (a6, .inr (6, [.int (u3 0), .ref a40, .ref a41, .ref a42])), (a40, .inl (cI, 8, .inl (U3 0))), (a9, .inr (2, [.int i77, .int i78, .int i79, .int i80, .int i81, .int i82, .int i83, .int i84, .int i85, .ref a121, .ref a122, .ref a123, .ref a124, .ref a125]))] H := hP
  have hD : va_D A [(a41, .inl (cI, 8, .inl xF29)), (a42, .inl (cI, 8, .inl xF30)), (a0, .inr (11, [.ref a1, .ref a2, .ref a3, .ref a4, .ref a5, .ref a6, .ref a7, .ref a8, .ref a9, .ref a10])), (a5, .inr (8, [.ref a36, .ref a37, .ref a38, .ref a39])), (a37, .inl (cI, 4, .inl xF25)), (a38, .inl (cZ, 4, .inl xF26)), (a39, .inl (cJ, 240, .inr (.inl xG27))), (a6, .inr (6, [.int (u3 0), .ref a40, .ref a41, .ref a42])), (a40, .inl (cI, 8, .inl (U3 0))), (a9, .inr (2, [.int i77, .int i78, .int i79, .int i80, .int i81, .int i82, .int i83, .int i84, .int i85, .ref a121, .ref a122, .ref a123, .ref a124, .ref a125]))] := hD
  refine lv_istore_n (lv' := [(2, .int r1), (0, .ref a0), (1, .int p0)]) hx hb dX11_fewest_5 rfl hl (by decide) rfl (fun ls hl => ?_)
  refine lv_iload_n hx hb dX11_fewest_6 rfl (lv_at hl 0 rfl) ?_
  refine lv_if_eq (tgt := 14) hx hb dX11_fewest_7 (by decide) (fun c6 => ?_) (fun c6 => ?_)
  · rw [ki_eq] at c6
    refine lv_aload_n hx hb dX11_fewest_14 rfl (lv_at hl 1 rfl) ?_
    refine va_get (D := (dC, dI)) (ci := 11) (v := .ref a6) (C := RX11) (T := TX11) (N := 10) hx hb hwd inlX11 hown hK hP 2 rfl rfl 5 (by decide) (hwd _ kr2_12) (fun _ h9 => h9) rfl dX11_fewest_15 ?_
    refine lv_aload_n hx hb dX11_fewest_18 rfl (lv_at hl 1 rfl) ?_
    refine va_get (D := (dC, dI)) (ci := 11) (v := .ref a9) (C := RX11) (T := TX11) (N := 10) hx hb hwd inlX11 hown hK hP 2 rfl rfl 8 (by decide) (hwd _ kr2_19) (fun _ h9 => h9) rfl dX11_fewest_19 ?_
    refine va_get (D := (dC, dI)) (ci := 2) (v := .int i77) (C := RX2) (T := TX2) (N := 14) hx hb hwd inlX2 hown hK hP 9 rfl rfl 0 (by decide) (hwd _ kr35_11) (fun _ h9 => h9) rfl dX11_fewest_22 ?_
    have hPc := hP.sub (ws' := [(a6, .inr (6, [.int (u3 0), .ref a40, .ref a41, .ref a42])), (a40, .inl (cI, 8, .inl (U3 0))), (a41, .inl (cI, 8, .inl xF29)), (a42, .inl (cI, 8, .inl xF30))]) [7, 8, 0, 1] rfl
    have hDc := hD.sub (ws' := [(a6, .inr (6, [.int (u3 0), .ref a40, .ref a41, .ref a42])), (a40, .inl (cI, 8, .inl (U3 0))), (a41, .inl (cI, 8, .inl xF29)), (a42, .inl (cI, 8, .inl xF30))]) [7, 8, 0, 1] (by decide) rfl
    have hFc := va_free (wc := [(a6, .inr (6, [.int (u3 0), .ref a40, .ref a41, .ref a42])), (a40, .inl (cI, 8, .inl (U3 0))), (a41, .inl (cI, 8, .inl xF29)), (a42, .inl (cI, 8, .inl xF30))]) hD hS hA [7, 8, 0, 1] rfl
    refine va_calli (va_runV (As := [.int i77]) (rest := []) ⟨hx, hb, hml, hown, hwd⟩ (s_X6_fewestTracks l dC dI cI cZ cB cJ cM cG a6 a40 a41 a42 (u3 0) (U3 0) xF29 xF30 i77 H.size (show (0 : Int) ≤ (u3 0).toInt ∧ (u3 0).toInt ≤ 8 from ⟨by omega, by omega⟩)) (cwV 1 hwd (gV kr54_16 kr54_17 kr54_18 kr2_11 kr54_19) rfl rfl rfl (by decide +kernel) ⟨Nat.le_of_ble_eq_true rfl, Nat.le_of_ble_eq_true rfl⟩) (kPreV hPc hK hDc (ci := 6) (q0 := 0) rfl rfl) rfl rfl hl.1 rfl (lv_room (Nat.le_of_ble_eq_true rfl)) dX11_fewest_25 ⟨Nat.le_of_ble_eq_true rfl, Nat.le_of_ble_eq_true rfl⟩) hS (fun q _ h => hFc q h) hFc (fun r7 u8 t H1 locs ht9 hvm hw hB hz1 hk1 hS => ?_)
    obtain ⟨u9, U9, V9⟩ := u8
    obtain ⟨hw10, -⟩ := hw
    have hw10 : (0 : Int) ≤ r7.toInt ∧ r7.toInt ≤ 8 := hw10
    obtain ⟨hP1, hD1⟩ := hB
    rw [ht9] at hP1
    obtain ⟨hP, hD⟩ := va_join (wr := [(a0, .inr (11, [.ref a1, .ref a2, .ref a3, .ref a4, .ref a5, .ref a6, .ref a7, .ref a8, .ref a9, .ref a10])), (a5, .inr (8, [.ref a36, .ref a37, .ref a38, .ref a39])), (a37, .inl (cI, 4, .inl xF25)), (a38, .inl (cZ, 4, .inl xF26)), (a39, .inl (cJ, 240, .inr (.inl xG27))), (a9, .inr (2, [.int i77, .int i78, .int i79, .int i80, .int i81, .int i82, .int i83, .int i84, .int i85, .ref a121, .ref a122, .ref a123, .ref a124, .ref a125]))]) (w1 := [(a6, .inr (6, [.int (u3 0), .ref a40, .ref a41, .ref a42])), (a40, .inl (cI, 8, .inl (U3 0))), (a41, .inl (cI, 8, .inl (U9 0))), (a42, .inl (cI, 8, .inl (U9 1)))]) hP hD [7, 8, 0, 1] [2, 3, 4, 5, 6, 9] rfl rfl (by decide) (by decide) hk1 hFc hP1 hD1
    generalize H1 = H at hP hS ⊢
    have hP : va_P (dC, dI) vwCl [(a0, .inr (11, [.ref a1, .ref a2, .ref a3, .ref a4, .ref a5, .ref a6, .ref a7, .ref a8, .ref a9, .ref a10])), (a5, .inr (8, [.ref a36, .ref a37, .ref a38, .ref a39])), (a37, .inl (cI, 4, .inl xF25)), (a38, .inl (cZ, 4, .inl xF26)), (a39, .inl (cJ, 240, .inr (.inl xG27))), (a9, .inr (2, [.int i77, .int i78, .int i79, .int i80, .int i81, .int i82, .int i83, .int i84, .int i85, .ref a121, .ref a122, .ref a123, .ref a124, .ref a125])), (a6, .inr (6, [.int (u3 0), .ref a40, .ref a41, .ref a42])), (a40, .inl (cI, 8, .inl (U3 0))), (a41, .inl (cI, 8, .inl (U9 0))), (a42, .inl (cI, 8, .inl (U9 1)))] H := hP
    have hD : va_D A [(a0, .inr (11, [.ref a1, .ref a2, .ref a3, .ref a4, .ref a5, .ref a6, .ref a7, .ref a8, .ref a9, .ref a10])), (a5, .inr (8, [.ref a36, .ref a37, .ref a38, .ref a39])), (a37, .inl (cI, 4, .inl xF25)), (a38, .inl (cZ, 4, .inl xF26)), (a39, .inl (cJ, 240, .inr (.inl xG27))), (a9, .inr (2, [.int i77, .int i78, .int i79, .int i80, .int i81, .int i82, .int i83, .int i84, .int i85, .ref a121, .ref a122, .ref a123, .ref a124, .ref a125])), (a6, .inr (6, [.int (u3 0), .ref a40, .ref a41, .ref a42])), (a40, .inl (cI, 8, .inl (U3 0))), (a41, .inl (cI, 8, .inl (U9 0))), (a42, .inl (cI, 8, .inl (U9 1)))] := hD
    have hP9 := hP.sub (ws' := [(a0, .inr (11, [.ref a1, .ref a2, .ref a3, .ref a4, .ref a5, .ref a6, .ref a7, .ref a8, .ref a9, .ref a10])), (a5, .inr (8, [.ref a36, .ref a37, .ref a38, .ref a39])), (a37, .inl (cI, 4, .inl xF25)), (a38, .inl (cZ, 4, .inl xF26)), (a39, .inl (cJ, 240, .inr (.inl xG27))), (a6, .inr (6, [.int (u3 0), .ref a40, .ref a41, .ref a42])), (a40, .inl (cI, 8, .inl (U3 0))), (a41, .inl (cI, 8, .inl (U9 0))), (a42, .inl (cI, 8, .inl (U9 1))), (a9, .inr (2, [.int i77, .int i78, .int i79, .int i80, .int i81, .int i82, .int i83, .int i84, .int i85, .ref a121, .ref a122, .ref a123, .ref a124, .ref a125]))]) [0, 1, 2, 3, 4, 6, 7, 8, 9, 5] rfl
    have hD9 := hD.sub (ws' := [(a0, .inr (11, [.ref a1, .ref a2, .ref a3, .ref a4, .ref a5, .ref a6, .ref a7, .ref a8, .ref a9, .ref a10])), (a5, .inr (8, [.ref a36, .ref a37, .ref a38, .ref a39])), (a37, .inl (cI, 4, .inl xF25)), (a38, .inl (cZ, 4, .inl xF26)), (a39, .inl (cJ, 240, .inr (.inl xG27))), (a6, .inr (6, [.int (u3 0), .ref a40, .ref a41, .ref a42])), (a40, .inl (cI, 8, .inl (U3 0))), (a41, .inl (cI, 8, .inl (U9 0))), (a42, .inl (cI, 8, .inl (U9 1))), (a9, .inr (2, [.int i77, .int i78, .int i79, .int i80, .int i81, .int i82, .int i83, .int i84, .int i85, .ref a121, .ref a122, .ref a123, .ref a124, .ref a125]))]) [0, 1, 2, 3, 4, 6, 7, 8, 9, 5] (by decide) rfl
    rw [hQ]
    exact W.iret (v := r7) hx hb hr (fun t ht hW => ⟨⟨r7, (pickG 0 [(u3 0)], pickG (fun _ => 0) [(U3 0), (U9 0), (U9 1)], pickG (fun _ => 0) []), rfl, ⟨(show (-6 : Int) ≤ r7.toInt ∧ r7.toInt ≤ 8 from ⟨by omega, by omega⟩), (show (0 : Int) ≤ (u3 0).toInt ∧ (u3 0).toInt ≤ 8 from ⟨by omega, by omega⟩), trivial⟩, (by rw [ht]; exact hP9), hD9⟩, hS.F ht⟩) hS.2.2 dX11_fewest_28
  · rw [ki_eq] at c6
    refine lv_iload_n hx hb dX11_fewest_10 rfl (lv_at hl 0 rfl) ?_
    refine lv_goto (tgt := 28) hx hb dX11_fewest_11 (by decide) ?_
    have hP9 := hP.sub (ws' := [(a0, .inr (11, [.ref a1, .ref a2, .ref a3, .ref a4, .ref a5, .ref a6, .ref a7, .ref a8, .ref a9, .ref a10])), (a5, .inr (8, [.ref a36, .ref a37, .ref a38, .ref a39])), (a37, .inl (cI, 4, .inl xF25)), (a38, .inl (cZ, 4, .inl xF26)), (a39, .inl (cJ, 240, .inr (.inl xG27))), (a6, .inr (6, [.int (u3 0), .ref a40, .ref a41, .ref a42])), (a40, .inl (cI, 8, .inl (U3 0))), (a41, .inl (cI, 8, .inl xF29)), (a42, .inl (cI, 8, .inl xF30)), (a9, .inr (2, [.int i77, .int i78, .int i79, .int i80, .int i81, .int i82, .int i83, .int i84, .int i85, .ref a121, .ref a122, .ref a123, .ref a124, .ref a125]))]) [2, 3, 4, 5, 6, 7, 8, 0, 1, 9] rfl
    have hD9 := hD.sub (ws' := [(a0, .inr (11, [.ref a1, .ref a2, .ref a3, .ref a4, .ref a5, .ref a6, .ref a7, .ref a8, .ref a9, .ref a10])), (a5, .inr (8, [.ref a36, .ref a37, .ref a38, .ref a39])), (a37, .inl (cI, 4, .inl xF25)), (a38, .inl (cZ, 4, .inl xF26)), (a39, .inl (cJ, 240, .inr (.inl xG27))), (a6, .inr (6, [.int (u3 0), .ref a40, .ref a41, .ref a42])), (a40, .inl (cI, 8, .inl (U3 0))), (a41, .inl (cI, 8, .inl xF29)), (a42, .inl (cI, 8, .inl xF30)), (a9, .inr (2, [.int i77, .int i78, .int i79, .int i80, .int i81, .int i82, .int i83, .int i84, .int i85, .ref a121, .ref a122, .ref a123, .ref a124, .ref a125]))]) [2, 3, 4, 5, 6, 7, 8, 0, 1, 9] (by decide) rfl
    rw [hQ]
    exact W.iret (v := r1) hx hb hr (fun t ht hW => ⟨⟨r1, (pickG 0 [(u3 0)], pickG (fun _ => 0) [(U3 0), xF29, xF30], pickG (fun _ => 0) []), rfl, ⟨(show (-6 : Int) ≤ r1.toInt ∧ r1.toInt ≤ 8 from ⟨by omega, by omega⟩), (show (0 : Int) ≤ (u3 0).toInt ∧ (u3 0).toInt ≤ 8 from ⟨by omega, by omega⟩), trivial⟩, (by rw [ht]; exact hP9), hD9⟩, hS.F ht⟩) hS.2.2 dX11_fewest_28
theorem dX11_place_0 : decode cX11_place 0 = .ok (.aload_n 0, 1) := by decide +kernel
theorem dX11_place_1 : decode cX11_place 1 = .ok (.iload_n 1, 1) := by decide +kernel
theorem dX11_place_2 : decode cX11_place 2 = .ok (.invokevirtual 330, 3) := by decide +kernel
theorem dX11_place_5 : decode cX11_place 5 = .ok (.istore_n 3, 1) := by decide +kernel
theorem dX11_place_6 : decode cX11_place 6 = .ok (.iload_n 3, 1) := by decide +kernel
theorem dX11_place_7 : decode cX11_place 7 = .ok (.ifCond .eq 5, 3) := by decide +kernel
theorem dX11_place_10 : decode cX11_place 10 = .ok (.iload_n 3, 1) := by decide +kernel
theorem dX11_place_11 : decode cX11_place 11 = .ok (.ireturn, 1) := by decide +kernel
theorem dX11_place_12 : decode cX11_place 12 = .ok (.iload_n 2, 1) := by decide +kernel
theorem dX11_place_13 : decode cX11_place 13 = .ok (.ifCond .lt 14, 3) := by decide +kernel
theorem dX11_place_16 : decode cX11_place 16 = .ok (.iload_n 2, 1) := by decide +kernel
theorem dX11_place_17 : decode cX11_place 17 = .ok (.aload_n 0, 1) := by decide +kernel
theorem dX11_place_18 : decode cX11_place 18 = .ok (.getfield 47, 3) := by decide +kernel
theorem dX11_place_21 : decode cX11_place 21 = .ok (.getfield 336, 3) := by decide +kernel
theorem dX11_place_24 : decode cX11_place 24 = .ok (.if_icmp .lt 6, 3) := by decide +kernel
theorem dX11_place_27 : decode cX11_place 27 = .ok (.bipush (-2), 2) := by decide +kernel
theorem dX11_place_29 : decode cX11_place 29 = .ok (.ireturn, 1) := by decide +kernel
theorem dX11_place_30 : decode cX11_place 30 = .ok (.aload_n 0, 1) := by decide +kernel
theorem dX11_place_31 : decode cX11_place 31 = .ok (.getfield 47, 3) := by decide +kernel
theorem dX11_place_34 : decode cX11_place 34 = .ok (.aload_n 0, 1) := by decide +kernel
theorem dX11_place_35 : decode cX11_place 35 = .ok (.getfield 62, 3) := by decide +kernel
theorem dX11_place_38 : decode cX11_place 38 = .ok (.getfield 155, 3) := by decide +kernel
theorem dX11_place_41 : decode cX11_place 41 = .ok (.invokevirtual 333, 3) := by decide +kernel
theorem dX11_place_44 : decode cX11_place 44 = .ok (.pop, 1) := by decide +kernel
theorem dX11_place_45 : decode cX11_place 45 = .ok (.aload_n 0, 1) := by decide +kernel
theorem dX11_place_46 : decode cX11_place 46 = .ok (.getfield 47, 3) := by decide +kernel
theorem dX11_place_49 : decode cX11_place 49 = .ok (.getfield 337, 3) := by decide +kernel
theorem dX11_place_52 : decode cX11_place 52 = .ok (.iload_n 2, 1) := by decide +kernel
theorem dX11_place_53 : decode cX11_place 53 = .ok (.iaload, 1) := by decide +kernel
theorem dX11_place_54 : decode cX11_place 54 = .ok (.ireturn, 1) := by decide +kernel
set_option maxHeartbeats 4000000 in
set_option maxRecDepth 100000 in
theorem s_X11_place (l : Launch) (dC : Nat → ClassId) (dI : Nat → Nat → Nat) (cI cZ cB cJ cM cG : ClassId) (a0 a1 a2 a3 a4 a5 a6 a7 a8 a9 a10 a36 a37 a38 a39 a40 a41 a42 a121 a122 a123 a124 a125 : Nat) (i16 i77 i78 i79 i80 i81 i82 i83 i84 i85 : Int32) (xF25 xF26 xF28 xF29 xF30 : Nat → Int32) (xG27 : Nat → Int64) (p0 p1 : Int32) (sz : Nat) (p_0 : rng xF25 4 0 60) (p_1 : rng xF26 4 0 1) (p_2 : (0 : Int) ≤ i16.toInt ∧ i16.toInt ≤ 8) (p_3 : (0 : Int) ≤ i77.toInt ∧ i77.toInt ≤ 60) (p_4 : (0 : Int) ≤ i80.toInt ∧ i80.toInt ≤ 6) (p_5 : (0 : Int) ≤ i82.toInt ∧ i82.toInt ≤ 1) (p_6 : (0 : Int) ≤ i85.toInt ∧ i85.toInt ≤ 1) : Met l yX11_place (kw yX11_place cX11_place 4 (some .int)) ({ frames := 10, cells := 0, slots := 0, locals := 247 } : Room) (va_Pc [.ref a0, .int p0, .int p1] (kPre dC dI [(cI, .int), (cZ, .boolean), (cB, .byte), (cJ, .long), (cM, .object RX2), (cG, .array .int)] [(a0, .inr (11, [.ref a1, .ref a2, .ref a3, .ref a4, .ref a5, .ref a6, .ref a7, .ref a8, .ref a9, .ref a10])), (a5, .inr (8, [.ref a36, .ref a37, .ref a38, .ref a39])), (a37, .inl (cI, 4, .inl xF25)), (a38, .inl (cZ, 4, .inl xF26)), (a39, .inl (cJ, 240, .inr (.inl xG27))), (a6, .inr (6, [.int i16, .ref a40, .ref a41, .ref a42])), (a40, .inl (cI, 8, .inl xF28)), (a41, .inl (cI, 8, .inl xF29)), (a42, .inl (cI, 8, .inl xF30)), (a9, .inr (2, [.int i77, .int i78, .int i79, .int i80, .int i81, .int i82, .int i83, .int i84, .int i85, .ref a121, .ref a122, .ref a123, .ref a124, .ref a125]))] sz)) (va_Qi (fun (r : Int32) (u9 : (Nat → Int32) × (Nat → Nat → Int32) × (Nat → Nat → Int64)) => ((0 : Int) ≤ (u9.1 0).toInt ∧ (u9.1 0).toInt ≤ 8) ∧ True) (fun u9 t => va_P (dC, dI) vwCl [(a0, .inr (11, [.ref a1, .ref a2, .ref a3, .ref a4, .ref a5, .ref a6, .ref a7, .ref a8, .ref a9, .ref a10])), (a5, .inr (8, [.ref a36, .ref a37, .ref a38, .ref a39])), (a37, .inl (cI, 4, .inl xF25)), (a38, .inl (cZ, 4, .inl xF26)), (a39, .inl (cJ, 240, .inr (.inl xG27))), (a6, .inr (6, [.int (u9.1 0), .ref a40, .ref a41, .ref a42])), (a40, .inl (cI, 8, .inl (u9.2.1 0))), (a41, .inl (cI, 8, .inl (u9.2.1 1))), (a42, .inl (cI, 8, .inl (u9.2.1 2))), (a9, .inr (2, [.int i77, .int i78, .int i79, .int i80, .int i81, .int i82, .int i83, .int i84, .int i85, .ref a121, .ref a122, .ref a123, .ref a124, .ref a125]))] t.heap ∧ va_D (va_A [(a0, .inr (11, [.ref a1, .ref a2, .ref a3, .ref a4, .ref a5, .ref a6, .ref a7, .ref a8, .ref a9, .ref a10])), (a5, .inr (8, [.ref a36, .ref a37, .ref a38, .ref a39])), (a37, .inl (cI, 4, .inl xF25)), (a38, .inl (cZ, 4, .inl xF26)), (a39, .inl (cJ, 240, .inr (.inl xG27))), (a6, .inr (6, [.int i16, .ref a40, .ref a41, .ref a42])), (a40, .inl (cI, 8, .inl xF28)), (a41, .inl (cI, 8, .inl xF29)), (a42, .inl (cI, 8, .inl xF30)), (a9, .inr (2, [.int i77, .int i78, .int i79, .int i80, .int i81, .int i82, .int i83, .int i84, .int i85, .ref a121, .ref a122, .ref a123, .ref a124, .ref a125]))] sz) [(a0, .inr (11, [.ref a1, .ref a2, .ref a3, .ref a4, .ref a5, .ref a6, .ref a7, .ref a8, .ref a9, .ref a10])), (a5, .inr (8, [.ref a36, .ref a37, .ref a38, .ref a39])), (a37, .inl (cI, 4, .inl xF25)), (a38, .inl (cZ, 4, .inl xF26)), (a39, .inl (cJ, 240, .inr (.inl xG27))), (a6, .inr (6, [.int (u9.1 0), .ref a40, .ref a41, .ref a42])), (a40, .inl (cI, 8, .inl (u9.2.1 0))), (a41, .inl (cI, 8, .inl (u9.2.1 1))), (a42, .inl (cI, 8, .inl (u9.2.1 2))), (a9, .inr (2, [.int i77, .int i78, .int i79, .int i80, .int i81, .int i82, .int i83, .int i84, .int i85, .ref a121, .ref a122, .ref a123, .ref a124, .ref a125]))]) (va_A [(a0, .inr (11, [.ref a1, .ref a2, .ref a3, .ref a4, .ref a5, .ref a6, .ref a7, .ref a8, .ref a9, .ref a10])), (a5, .inr (8, [.ref a36, .ref a37, .ref a38, .ref a39])), (a37, .inl (cI, 4, .inl xF25)), (a38, .inl (cZ, 4, .inl xF26)), (a39, .inl (cJ, 240, .inr (.inl xG27))), (a6, .inr (6, [.int i16, .ref a40, .ref a41, .ref a42])), (a40, .inl (cI, 8, .inl xF28)), (a41, .inl (cI, 8, .inl xF29)), (a42, .inl (cI, 8, .inl xF30)), (a9, .inr (2, [.int i77, .int i78, .int i79, .int i80, .int i81, .int i82, .int i83, .int i84, .int i85, .ref a121, .ref a122, .ref a123, .ref a124, .ref a125]))] sz)) 0 0 (va_A [(a0, .inr (11, [.ref a1, .ref a2, .ref a3, .ref a4, .ref a5, .ref a6, .ref a7, .ref a8, .ref a9, .ref a10])), (a5, .inr (8, [.ref a36, .ref a37, .ref a38, .ref a39])), (a37, .inl (cI, 4, .inl xF25)), (a38, .inl (cZ, 4, .inl xF26)), (a39, .inl (cJ, 240, .inr (.inl xG27))), (a6, .inr (6, [.int i16, .ref a40, .ref a41, .ref a42])), (a40, .inl (cI, 8, .inl xF28)), (a41, .inl (cI, 8, .inl xF29)), (a42, .inl (cI, 8, .inl xF30)), (a9, .inr (2, [.int i77, .int i78, .int i79, .int i80, .int i81, .int i82, .int i83, .int i84, .int i85, .ref a121, .ref a122, .ref a123, .ref a124, .ref a125]))] sz) := by
  refine kEnter (by decide) (Nat.le_of_ble_eq_true rfl) ?_
  intro p e s m below meth c ls hx hb hr hml hown hlocks hin hwd hsz hP hK hD hl
  subst hsz
  generalize hAe : va_A [(a0, .inr (11, [.ref a1, .ref a2, .ref a3, .ref a4, .ref a5, .ref a6, .ref a7, .ref a8, .ref a9, .ref a10])), (a5, .inr (8, [.ref a36, .ref a37, .ref a38, .ref a39])), (a37, .inl (cI, 4, .inl xF25)), (a38, .inl (cZ, 4, .inl xF26)), (a39, .inl (cJ, 240, .inr (.inl xG27))), (a6, .inr (6, [.int i16, .ref a40, .ref a41, .ref a42])), (a40, .inl (cI, 8, .inl xF28)), (a41, .inl (cI, 8, .inl xF29)), (a42, .inl (cI, 8, .inl xF30)), (a9, .inr (2, [.int i77, .int i78, .int i79, .int i80, .int i81, .int i82, .int i83, .int i84, .int i85, .ref a121, .ref a122, .ref a123, .ref a124, .ref a125]))] s.heap.size = A at hD ⊢
  have hA : ∀ q : Nat, s.heap.size ≤ q → A q := fun q h => by rw [← hAe]; exact Or.inr h
  have hS : va_S A s.heap s.heap [] := va_S.rf
  have hl : lv_has ls 4 [(0, .ref a0), (1, .int p0), (2, .int p1)] := hl
  obtain ⟨Q, hQ⟩ : ∃ Q, Q = MQ below (va_Qi (fun (r : Int32) (u9 : (Nat → Int32) × (Nat → Nat → Int32) × (Nat → Nat → Int64)) => ((0 : Int) ≤ (u9.1 0).toInt ∧ (u9.1 0).toInt ≤ 8) ∧ True) (fun u9 t => va_P (dC, dI) vwCl [(a0, .inr (11, [.ref a1, .ref a2, .ref a3, .ref a4, .ref a5, .ref a6, .ref a7, .ref a8, .ref a9, .ref a10])), (a5, .inr (8, [.ref a36, .ref a37, .ref a38, .ref a39])), (a37, .inl (cI, 4, .inl xF25)), (a38, .inl (cZ, 4, .inl xF26)), (a39, .inl (cJ, 240, .inr (.inl xG27))), (a6, .inr (6, [.int (u9.1 0), .ref a40, .ref a41, .ref a42])), (a40, .inl (cI, 8, .inl (u9.2.1 0))), (a41, .inl (cI, 8, .inl (u9.2.1 1))), (a42, .inl (cI, 8, .inl (u9.2.1 2))), (a9, .inr (2, [.int i77, .int i78, .int i79, .int i80, .int i81, .int i82, .int i83, .int i84, .int i85, .ref a121, .ref a122, .ref a123, .ref a124, .ref a125]))] t.heap ∧ va_D A [(a0, .inr (11, [.ref a1, .ref a2, .ref a3, .ref a4, .ref a5, .ref a6, .ref a7, .ref a8, .ref a9, .ref a10])), (a5, .inr (8, [.ref a36, .ref a37, .ref a38, .ref a39])), (a37, .inl (cI, 4, .inl xF25)), (a38, .inl (cZ, 4, .inl xF26)), (a39, .inl (cJ, 240, .inr (.inl xG27))), (a6, .inr (6, [.int (u9.1 0), .ref a40, .ref a41, .ref a42])), (a40, .inl (cI, 8, .inl (u9.2.1 0))), (a41, .inl (cI, 8, .inl (u9.2.1 1))), (a42, .inl (cI, 8, .inl (u9.2.1 2))), (a9, .inr (2, [.int i77, .int i78, .int i79, .int i80, .int i81, .int i82, .int i83, .int i84, .int i85, .ref a121, .ref a122, .ref a123, .ref a124, .ref a125]))]) A) ([.ref a0, .int p0, .int p1] : List Value).toArray s 0 0 A := ⟨_, rfl⟩
  rw [← hQ]
  have k0 : (0 : Int32).toInt = 0 := by decide
  refine lv_aload_n hx hb dX11_place_0 rfl (lv_at hl 0 rfl) ?_
  refine lv_iload_n hx hb dX11_place_1 rfl (lv_at hl 1 rfl) ?_
  have hPc := hP.sub (ws' := [(a0, .inr (11, [.ref a1, .ref a2, .ref a3, .ref a4, .ref a5, .ref a6, .ref a7, .ref a8, .ref a9, .ref a10])), (a5, .inr (8, [.ref a36, .ref a37, .ref a38, .ref a39])), (a37, .inl (cI, 4, .inl xF25)), (a38, .inl (cZ, 4, .inl xF26)), (a39, .inl (cJ, 240, .inr (.inl xG27))), (a6, .inr (6, [.int i16, .ref a40, .ref a41, .ref a42])), (a40, .inl (cI, 8, .inl xF28)), (a9, .inr (2, [.int i77, .int i78, .int i79, .int i80, .int i81, .int i82, .int i83, .int i84, .int i85, .ref a121, .ref a122, .ref a123, .ref a124, .ref a125]))]) [0, 1, 2, 3, 4, 5, 6, 9] rfl
  have hDc := hD.sub (ws' := [(a0, .inr (11, [.ref a1, .ref a2, .ref a3, .ref a4, .ref a5, .ref a6, .ref a7, .ref a8, .ref a9, .ref a10])), (a5, .inr (8, [.ref a36, .ref a37, .ref a38, .ref a39])), (a37, .inl (cI, 4, .inl xF25)), (a38, .inl (cZ, 4, .inl xF26)), (a39, .inl (cJ, 240, .inr (.inl xG27))), (a6, .inr (6, [.int i16, .ref a40, .ref a41, .ref a42])), (a40, .inl (cI, 8, .inl xF28)), (a9, .inr (2, [.int i77, .int i78, .int i79, .int i80, .int i81, .int i82, .int i83, .int i84, .int i85, .ref a121, .ref a122, .ref a123, .ref a124, .ref a125]))]) [0, 1, 2, 3, 4, 5, 6, 9] (by decide) rfl
  have hFc := va_free (wc := [(a0, .inr (11, [.ref a1, .ref a2, .ref a3, .ref a4, .ref a5, .ref a6, .ref a7, .ref a8, .ref a9, .ref a10])), (a5, .inr (8, [.ref a36, .ref a37, .ref a38, .ref a39])), (a37, .inl (cI, 4, .inl xF25)), (a38, .inl (cZ, 4, .inl xF26)), (a39, .inl (cJ, 240, .inr (.inl xG27))), (a6, .inr (6, [.int i16, .ref a40, .ref a41, .ref a42])), (a40, .inl (cI, 8, .inl xF28)), (a9, .inr (2, [.int i77, .int i78, .int i79, .int i80, .int i81, .int i82, .int i83, .int i84, .int i85, .ref a121, .ref a122, .ref a123, .ref a124, .ref a125]))]) hD hS hA [0, 1, 2, 3, 4, 5, 6, 9] rfl
  refine va_calli (va_runV (As := [.int p0]) (rest := []) ⟨hx, hb, hml, hown, hwd⟩ (s_X11_takeMotions l dC dI cI cZ cB cJ cM cG a0 a1 a2 a3 a4 a5 a6 a7 a8 a9 a10 a36 a37 a38 a39 a40 a41 a42 a121 a122 a123 a124 a125 i16 i77 i78 i79 i80 i81 i82 i83 i84 i85 xF25 xF26 xF28 xG27 p0 s.heap.size (show rng xF25 4 0 60 from p_0) (show rng xF26 4 0 1 from p_1) (show (0 : Int) ≤ i16.toInt ∧ i16.toInt ≤ 8 from ⟨by omega, by omega⟩) (show (0 : Int) ≤ i77.toInt ∧ i77.toInt ≤ 60 from ⟨by omega, by omega⟩) (show (0 : Int) ≤ i80.toInt ∧ i80.toInt ≤ 6 from ⟨by omega, by omega⟩) (show (0 : Int) ≤ i82.toInt ∧ i82.toInt ≤ 1 from ⟨by omega, by omega⟩) (show (0 : Int) ≤ i85.toInt ∧ i85.toInt ≤ 1 from ⟨by omega, by omega⟩)) (cwV 1 hwd (gV kr53_22 kr53_23 kr54_0 kr1_2 kr54_1) rfl rfl rfl (by decide +kernel) ⟨Nat.le_of_ble_eq_true rfl, Nat.le_of_ble_eq_true rfl⟩) (kPreV hPc hK hDc (ci := 11) (q0 := 0) rfl rfl) rfl rfl hl.1 rfl (lv_room (Nat.le_of_ble_eq_true rfl)) dX11_place_2 ⟨Nat.le_of_ble_eq_true rfl, Nat.le_of_ble_eq_true rfl⟩) hS (fun q _ h => hFc q h) hFc (fun r1 u2 t H1 locs ht9 hvm hw hB hz1 hk1 hS => ?_)
  obtain ⟨u3, U3, V3⟩ := u2
  obtain ⟨hw4, hw5, -⟩ := hw
  have hw4 : (-6 : Int) ≤ r1.toInt ∧ r1.toInt ≤ 0 := hw4
  have hw5 : (0 : Int) ≤ (u3 0).toInt ∧ (u3 0).toInt ≤ 8 := hw5
  obtain ⟨hP1, hD1⟩ := hB
  rw [ht9] at hP1
  obtain ⟨hP, hD⟩ := va_join (wr := [(a41, .inl (cI, 8, .inl xF29)), (a42, .inl (cI, 8, .inl xF30))]) (w1 := [(a0, .inr (11, [.ref a1, .ref a2, .ref a3, .ref a4, .ref a5, .ref a6, .ref a7, .ref a8, .ref a9, .ref a10])), (a5, .inr (8, [.ref a36, .ref a37, .ref a38, .ref a39])), (a37, .inl (cI, 4, .inl xF25)), (a38, .inl (cZ, 4, .inl xF26)), (a39, .inl (cJ, 240, .inr (.inl xG27))), (a6, .inr (6, [.int (u3 0), .ref a40, .ref a41, .ref a42])), (a40, .inl (cI, 8, .inl (U3 0))), (a9, .inr (2, [.int i77, .int i78, .int i79, .int i80, .int i81, .int i82, .int i83, .int i84, .int i85, .ref a121, .ref a122, .ref a123, .ref a124, .ref a125]))]) hP hD [0, 1, 2, 3, 4, 5, 6, 9] [7, 8] rfl rfl (by decide) (by decide) hk1 hFc hP1 hD1
  generalize H1 = H at hP hS ⊢
  have hP : va_P (dC, dI) vwCl [(a41, .inl (cI, 8, .inl xF29)), (a42, .inl (cI, 8, .inl xF30)), (a0, .inr (11, [.ref a1, .ref a2, .ref a3, .ref a4, .ref a5, .ref a6, .ref a7, .ref a8, .ref a9, .ref a10])), (a5, .inr (8, [.ref a36, .ref a37, .ref a38, .ref a39])), (a37, .inl (cI, 4, .inl xF25)), (a38, .inl (cZ, 4, .inl xF26)), (a39, .inl (cJ, 240, .inr (.inl xG27))), (a6, .inr (6, [.int (u3 0), .ref a40, .ref a41, .ref a42])), (a40, .inl (cI, 8, .inl (U3 0))), (a9, .inr (2, [.int i77, .int i78, .int i79, .int i80, .int i81, .int i82, .int i83, .int i84, .int i85, .ref a121, .ref a122, .ref a123, .ref a124, .ref a125]))] H := hP
  have hD : va_D A [(a41, .inl (cI, 8, .inl xF29)), (a42, .inl (cI, 8, .inl xF30)), (a0, .inr (11, [.ref a1, .ref a2, .ref a3, .ref a4, .ref a5, .ref a6, .ref a7, .ref a8, .ref a9, .ref a10])), (a5, .inr (8, [.ref a36, .ref a37, .ref a38, .ref a39])), (a37, .inl (cI, 4, .inl xF25)), (a38, .inl (cZ, 4, .inl xF26)), (a39, .inl (cJ, 240, .inr (.inl xG27))), (a6, .inr (6, [.int (u3 0), .ref a40, .ref a41, .ref a42])), (a40, .inl (cI, 8, .inl (U3 0))), (a9, .inr (2, [.int i77, .int i78, .int i79, .int i80, .int i81, .int i82, .int i83, .int i84, .int i85, .ref a121, .ref a122, .ref a123, .ref a124, .ref a125]))] := hD
  refine lv_istore_n (lv' := [(3, .int r1), (0, .ref a0), (1, .int p0), (2, .int p1)]) hx hb dX11_place_5 rfl hl (by decide) rfl (fun ls hl => ?_)
  refine lv_iload_n hx hb dX11_place_6 rfl (lv_at hl 0 rfl) ?_
  refine lv_if_eq (tgt := 12) hx hb dX11_place_7 (by decide) (fun c6 => ?_) (fun c6 => ?_)
  · rw [ki_eq] at c6
    refine lv_iload_n hx hb dX11_place_12 rfl (lv_at hl 3 rfl) ?_
    refine lv_if_lt (tgt := 27) hx hb dX11_place_13 (by decide) (fun c7 => ?_) (fun c7 => ?_)
    · rw [ki_lt] at c7
      refine lv_bipush (v := (-2)) hx hb dX11_place_27 (by decide) ?_
      have hP9 := hP.sub (ws' := [(a0, .inr (11, [.ref a1, .ref a2, .ref a3, .ref a4, .ref a5, .ref a6, .ref a7, .ref a8, .ref a9, .ref a10])), (a5, .inr (8, [.ref a36, .ref a37, .ref a38, .ref a39])), (a37, .inl (cI, 4, .inl xF25)), (a38, .inl (cZ, 4, .inl xF26)), (a39, .inl (cJ, 240, .inr (.inl xG27))), (a6, .inr (6, [.int (u3 0), .ref a40, .ref a41, .ref a42])), (a40, .inl (cI, 8, .inl (U3 0))), (a41, .inl (cI, 8, .inl xF29)), (a42, .inl (cI, 8, .inl xF30)), (a9, .inr (2, [.int i77, .int i78, .int i79, .int i80, .int i81, .int i82, .int i83, .int i84, .int i85, .ref a121, .ref a122, .ref a123, .ref a124, .ref a125]))]) [2, 3, 4, 5, 6, 7, 8, 0, 1, 9] rfl
      have hD9 := hD.sub (ws' := [(a0, .inr (11, [.ref a1, .ref a2, .ref a3, .ref a4, .ref a5, .ref a6, .ref a7, .ref a8, .ref a9, .ref a10])), (a5, .inr (8, [.ref a36, .ref a37, .ref a38, .ref a39])), (a37, .inl (cI, 4, .inl xF25)), (a38, .inl (cZ, 4, .inl xF26)), (a39, .inl (cJ, 240, .inr (.inl xG27))), (a6, .inr (6, [.int (u3 0), .ref a40, .ref a41, .ref a42])), (a40, .inl (cI, 8, .inl (U3 0))), (a41, .inl (cI, 8, .inl xF29)), (a42, .inl (cI, 8, .inl xF30)), (a9, .inr (2, [.int i77, .int i78, .int i79, .int i80, .int i81, .int i82, .int i83, .int i84, .int i85, .ref a121, .ref a122, .ref a123, .ref a124, .ref a125]))]) [2, 3, 4, 5, 6, 7, 8, 0, 1, 9] (by decide) rfl
      rw [hQ]
      exact W.iret (v := (-2)) hx hb hr (fun t ht hW => ⟨⟨(-2), (pickG 0 [(u3 0)], pickG (fun _ => 0) [(U3 0), xF29, xF30], pickG (fun _ => 0) []), rfl, ⟨(show (0 : Int) ≤ (u3 0).toInt ∧ (u3 0).toInt ≤ 8 from ⟨by omega, by omega⟩), trivial⟩, (by rw [ht]; exact hP9), hD9⟩, hS.F ht⟩) hS.2.2 dX11_place_29
    · rw [ki_lt] at c7
      refine lv_iload_n hx hb dX11_place_16 rfl (lv_at hl 3 rfl) ?_
      refine lv_aload_n hx hb dX11_place_17 rfl (lv_at hl 1 rfl) ?_
      refine va_get (D := (dC, dI)) (ci := 11) (v := .ref a6) (C := RX11) (T := TX11) (N := 10) hx hb hwd inlX11 hown hK hP 2 rfl rfl 5 (by decide) (hwd _ kr2_12) (fun _ h9 => h9) rfl dX11_place_18 ?_
      refine va_get (D := (dC, dI)) (ci := 6) (v := .int (u3 0)) (C := RX6) (T := TX6) (N := 4) hx hb hwd inlX6 hown hK hP 7 rfl rfl 0 (by decide) (hwd _ kr54_3) (fun _ h9 => h9) rfl dX11_place_21 ?_
      refine lv_icmp_lt (tgt := 30) hx hb dX11_place_24 (by decide) (fun c8 => ?_) (fun c8 => ?_)
      · rw [ki_lt] at c8
        refine lv_aload_n hx hb dX11_place_30 rfl (lv_at hl 1 rfl) ?_
        refine va_get (D := (dC, dI)) (ci := 11) (v := .ref a6) (C := RX11) (T := TX11) (N := 10) hx hb hwd inlX11 hown hK hP 2 rfl rfl 5 (by decide) (hwd _ kr2_12) (fun _ h9 => h9) rfl dX11_place_31 ?_
        refine lv_aload_n hx hb dX11_place_34 rfl (lv_at hl 1 rfl) ?_
        refine va_get (D := (dC, dI)) (ci := 11) (v := .ref a9) (C := RX11) (T := TX11) (N := 10) hx hb hwd inlX11 hown hK hP 2 rfl rfl 8 (by decide) (hwd _ kr2_19) (fun _ h9 => h9) rfl dX11_place_35 ?_
        refine va_get (D := (dC, dI)) (ci := 2) (v := .int i77) (C := RX2) (T := TX2) (N := 14) hx hb hwd inlX2 hown hK hP 9 rfl rfl 0 (by decide) (hwd _ kr35_11) (fun _ h9 => h9) rfl dX11_place_38 ?_
        have hPc := hP.sub (ws' := [(a6, .inr (6, [.int (u3 0), .ref a40, .ref a41, .ref a42])), (a40, .inl (cI, 8, .inl (U3 0))), (a41, .inl (cI, 8, .inl xF29)), (a42, .inl (cI, 8, .inl xF30))]) [7, 8, 0, 1] rfl
        have hDc := hD.sub (ws' := [(a6, .inr (6, [.int (u3 0), .ref a40, .ref a41, .ref a42])), (a40, .inl (cI, 8, .inl (U3 0))), (a41, .inl (cI, 8, .inl xF29)), (a42, .inl (cI, 8, .inl xF30))]) [7, 8, 0, 1] (by decide) rfl
        have hFc := va_free (wc := [(a6, .inr (6, [.int (u3 0), .ref a40, .ref a41, .ref a42])), (a40, .inl (cI, 8, .inl (U3 0))), (a41, .inl (cI, 8, .inl xF29)), (a42, .inl (cI, 8, .inl xF30))]) hD hS hA [7, 8, 0, 1] rfl
        refine va_calli (va_runV (As := [.int i77]) (rest := []) ⟨hx, hb, hml, hown, hwd⟩ (s_X6_fewestTracks l dC dI cI cZ cB cJ cM cG a6 a40 a41 a42 (u3 0) (U3 0) xF29 xF30 i77 H.size (show (0 : Int) ≤ (u3 0).toInt ∧ (u3 0).toInt ≤ 8 from ⟨by omega, by omega⟩)) (cwV 1 hwd (gV kr54_16 kr54_17 kr54_18 kr2_11 kr54_19) rfl rfl rfl (by decide +kernel) ⟨Nat.le_of_ble_eq_true rfl, Nat.le_of_ble_eq_true rfl⟩) (kPreV hPc hK hDc (ci := 6) (q0 := 0) rfl rfl) rfl rfl hl.1 rfl (lv_room (Nat.le_of_ble_eq_true rfl)) dX11_place_41 ⟨Nat.le_of_ble_eq_true rfl, Nat.le_of_ble_eq_true rfl⟩) hS (fun q _ h => hFc q h) hFc (fun r9 u10 t H1 locs ht9 hvm hw hB hz1 hk1 hS => ?_)
        obtain ⟨u11, U11, V11⟩ := u10
        obtain ⟨hw12, -⟩ := hw
        have hw12 : (0 : Int) ≤ r9.toInt ∧ r9.toInt ≤ 8 := hw12
        obtain ⟨hP1, hD1⟩ := hB
        rw [ht9] at hP1
        obtain ⟨hP, hD⟩ := va_join (wr := [(a0, .inr (11, [.ref a1, .ref a2, .ref a3, .ref a4, .ref a5, .ref a6, .ref a7, .ref a8, .ref a9, .ref a10])), (a5, .inr (8, [.ref a36, .ref a37, .ref a38, .ref a39])), (a37, .inl (cI, 4, .inl xF25)), (a38, .inl (cZ, 4, .inl xF26)), (a39, .inl (cJ, 240, .inr (.inl xG27))), (a9, .inr (2, [.int i77, .int i78, .int i79, .int i80, .int i81, .int i82, .int i83, .int i84, .int i85, .ref a121, .ref a122, .ref a123, .ref a124, .ref a125]))]) (w1 := [(a6, .inr (6, [.int (u3 0), .ref a40, .ref a41, .ref a42])), (a40, .inl (cI, 8, .inl (U3 0))), (a41, .inl (cI, 8, .inl (U11 0))), (a42, .inl (cI, 8, .inl (U11 1)))]) hP hD [7, 8, 0, 1] [2, 3, 4, 5, 6, 9] rfl rfl (by decide) (by decide) hk1 hFc hP1 hD1
        generalize H1 = H at hP hS ⊢
        have hP : va_P (dC, dI) vwCl [(a0, .inr (11, [.ref a1, .ref a2, .ref a3, .ref a4, .ref a5, .ref a6, .ref a7, .ref a8, .ref a9, .ref a10])), (a5, .inr (8, [.ref a36, .ref a37, .ref a38, .ref a39])), (a37, .inl (cI, 4, .inl xF25)), (a38, .inl (cZ, 4, .inl xF26)), (a39, .inl (cJ, 240, .inr (.inl xG27))), (a9, .inr (2, [.int i77, .int i78, .int i79, .int i80, .int i81, .int i82, .int i83, .int i84, .int i85, .ref a121, .ref a122, .ref a123, .ref a124, .ref a125])), (a6, .inr (6, [.int (u3 0), .ref a40, .ref a41, .ref a42])), (a40, .inl (cI, 8, .inl (U3 0))), (a41, .inl (cI, 8, .inl (U11 0))), (a42, .inl (cI, 8, .inl (U11 1)))] H := hP
        have hD : va_D A [(a0, .inr (11, [.ref a1, .ref a2, .ref a3, .ref a4, .ref a5, .ref a6, .ref a7, .ref a8, .ref a9, .ref a10])), (a5, .inr (8, [.ref a36, .ref a37, .ref a38, .ref a39])), (a37, .inl (cI, 4, .inl xF25)), (a38, .inl (cZ, 4, .inl xF26)), (a39, .inl (cJ, 240, .inr (.inl xG27))), (a9, .inr (2, [.int i77, .int i78, .int i79, .int i80, .int i81, .int i82, .int i83, .int i84, .int i85, .ref a121, .ref a122, .ref a123, .ref a124, .ref a125])), (a6, .inr (6, [.int (u3 0), .ref a40, .ref a41, .ref a42])), (a40, .inl (cI, 8, .inl (U3 0))), (a41, .inl (cI, 8, .inl (U11 0))), (a42, .inl (cI, 8, .inl (U11 1)))] := hD
        refine lv_pop hx hb dX11_place_44 rfl ?_
        refine lv_aload_n hx hb dX11_place_45 rfl (lv_at hl 1 rfl) ?_
        refine va_get (D := (dC, dI)) (ci := 11) (v := .ref a6) (C := RX11) (T := TX11) (N := 10) hx hb hwd inlX11 hown hK hP 0 rfl rfl 5 (by decide) (hwd _ kr2_12) (fun _ h9 => h9) rfl dX11_place_46 ?_
        refine va_get (D := (dC, dI)) (ci := 6) (v := .ref a41) (C := RX6) (T := TX6) (N := 4) hx hb hwd inlX6 hown hK hP 6 rfl rfl 2 (by decide) (hwd _ kr56_0) (fun _ h9 => h9) rfl dX11_place_49 ?_
        refine lv_iload_n hx hb dX11_place_52 rfl (lv_at hl 3 rfl) ?_
        have h13 : vp_in p1 8 := (vp_of (by omega) (by omega))
        refine va_iald hx hb hK hP 8 0 rfl rfl h13 dX11_place_53 ?_
        refine lv_topi (fun x14 ex14 => ?_)
        have hP9 := hP.sub (ws' := [(a0, .inr (11, [.ref a1, .ref a2, .ref a3, .ref a4, .ref a5, .ref a6, .ref a7, .ref a8, .ref a9, .ref a10])), (a5, .inr (8, [.ref a36, .ref a37, .ref a38, .ref a39])), (a37, .inl (cI, 4, .inl xF25)), (a38, .inl (cZ, 4, .inl xF26)), (a39, .inl (cJ, 240, .inr (.inl xG27))), (a6, .inr (6, [.int (u3 0), .ref a40, .ref a41, .ref a42])), (a40, .inl (cI, 8, .inl (U3 0))), (a41, .inl (cI, 8, .inl (U11 0))), (a42, .inl (cI, 8, .inl (U11 1))), (a9, .inr (2, [.int i77, .int i78, .int i79, .int i80, .int i81, .int i82, .int i83, .int i84, .int i85, .ref a121, .ref a122, .ref a123, .ref a124, .ref a125]))]) [0, 1, 2, 3, 4, 6, 7, 8, 9, 5] rfl
        have hD9 := hD.sub (ws' := [(a0, .inr (11, [.ref a1, .ref a2, .ref a3, .ref a4, .ref a5, .ref a6, .ref a7, .ref a8, .ref a9, .ref a10])), (a5, .inr (8, [.ref a36, .ref a37, .ref a38, .ref a39])), (a37, .inl (cI, 4, .inl xF25)), (a38, .inl (cZ, 4, .inl xF26)), (a39, .inl (cJ, 240, .inr (.inl xG27))), (a6, .inr (6, [.int (u3 0), .ref a40, .ref a41, .ref a42])), (a40, .inl (cI, 8, .inl (U3 0))), (a41, .inl (cI, 8, .inl (U11 0))), (a42, .inl (cI, 8, .inl (U11 1))), (a9, .inr (2, [.int i77, .int i78, .int i79, .int i80, .int i81, .int i82, .int i83, .int i84, .int i85, .ref a121, .ref a122, .ref a123, .ref a124, .ref a125]))]) [0, 1, 2, 3, 4, 6, 7, 8, 9, 5] (by decide) rfl
        rw [hQ]
        exact W.iret (v := x14) hx hb hr (fun t ht hW => ⟨⟨x14, (pickG 0 [(u3 0)], pickG (fun _ => 0) [(U3 0), (U11 0), (U11 1)], pickG (fun _ => 0) []), rfl, ⟨(show (0 : Int) ≤ (u3 0).toInt ∧ (u3 0).toInt ≤ 8 from ⟨by omega, by omega⟩), trivial⟩, (by rw [ht]; exact hP9), hD9⟩, hS.F ht⟩) hS.2.2 dX11_place_54
      · rw [ki_lt] at c8
        refine lv_bipush (v := (-2)) hx hb dX11_place_27 (by decide) ?_
        have hP9 := hP.sub (ws' := [(a0, .inr (11, [.ref a1, .ref a2, .ref a3, .ref a4, .ref a5, .ref a6, .ref a7, .ref a8, .ref a9, .ref a10])), (a5, .inr (8, [.ref a36, .ref a37, .ref a38, .ref a39])), (a37, .inl (cI, 4, .inl xF25)), (a38, .inl (cZ, 4, .inl xF26)), (a39, .inl (cJ, 240, .inr (.inl xG27))), (a6, .inr (6, [.int (u3 0), .ref a40, .ref a41, .ref a42])), (a40, .inl (cI, 8, .inl (U3 0))), (a41, .inl (cI, 8, .inl xF29)), (a42, .inl (cI, 8, .inl xF30)), (a9, .inr (2, [.int i77, .int i78, .int i79, .int i80, .int i81, .int i82, .int i83, .int i84, .int i85, .ref a121, .ref a122, .ref a123, .ref a124, .ref a125]))]) [2, 3, 4, 5, 6, 7, 8, 0, 1, 9] rfl
        have hD9 := hD.sub (ws' := [(a0, .inr (11, [.ref a1, .ref a2, .ref a3, .ref a4, .ref a5, .ref a6, .ref a7, .ref a8, .ref a9, .ref a10])), (a5, .inr (8, [.ref a36, .ref a37, .ref a38, .ref a39])), (a37, .inl (cI, 4, .inl xF25)), (a38, .inl (cZ, 4, .inl xF26)), (a39, .inl (cJ, 240, .inr (.inl xG27))), (a6, .inr (6, [.int (u3 0), .ref a40, .ref a41, .ref a42])), (a40, .inl (cI, 8, .inl (U3 0))), (a41, .inl (cI, 8, .inl xF29)), (a42, .inl (cI, 8, .inl xF30)), (a9, .inr (2, [.int i77, .int i78, .int i79, .int i80, .int i81, .int i82, .int i83, .int i84, .int i85, .ref a121, .ref a122, .ref a123, .ref a124, .ref a125]))]) [2, 3, 4, 5, 6, 7, 8, 0, 1, 9] (by decide) rfl
        rw [hQ]
        exact W.iret (v := (-2)) hx hb hr (fun t ht hW => ⟨⟨(-2), (pickG 0 [(u3 0)], pickG (fun _ => 0) [(U3 0), xF29, xF30], pickG (fun _ => 0) []), rfl, ⟨(show (0 : Int) ≤ (u3 0).toInt ∧ (u3 0).toInt ≤ 8 from ⟨by omega, by omega⟩), trivial⟩, (by rw [ht]; exact hP9), hD9⟩, hS.F ht⟩) hS.2.2 dX11_place_29
  · rw [ki_eq] at c6
    refine lv_iload_n hx hb dX11_place_10 rfl (lv_at hl 0 rfl) ?_
    have hP9 := hP.sub (ws' := [(a0, .inr (11, [.ref a1, .ref a2, .ref a3, .ref a4, .ref a5, .ref a6, .ref a7, .ref a8, .ref a9, .ref a10])), (a5, .inr (8, [.ref a36, .ref a37, .ref a38, .ref a39])), (a37, .inl (cI, 4, .inl xF25)), (a38, .inl (cZ, 4, .inl xF26)), (a39, .inl (cJ, 240, .inr (.inl xG27))), (a6, .inr (6, [.int (u3 0), .ref a40, .ref a41, .ref a42])), (a40, .inl (cI, 8, .inl (U3 0))), (a41, .inl (cI, 8, .inl xF29)), (a42, .inl (cI, 8, .inl xF30)), (a9, .inr (2, [.int i77, .int i78, .int i79, .int i80, .int i81, .int i82, .int i83, .int i84, .int i85, .ref a121, .ref a122, .ref a123, .ref a124, .ref a125]))]) [2, 3, 4, 5, 6, 7, 8, 0, 1, 9] rfl
    have hD9 := hD.sub (ws' := [(a0, .inr (11, [.ref a1, .ref a2, .ref a3, .ref a4, .ref a5, .ref a6, .ref a7, .ref a8, .ref a9, .ref a10])), (a5, .inr (8, [.ref a36, .ref a37, .ref a38, .ref a39])), (a37, .inl (cI, 4, .inl xF25)), (a38, .inl (cZ, 4, .inl xF26)), (a39, .inl (cJ, 240, .inr (.inl xG27))), (a6, .inr (6, [.int (u3 0), .ref a40, .ref a41, .ref a42])), (a40, .inl (cI, 8, .inl (U3 0))), (a41, .inl (cI, 8, .inl xF29)), (a42, .inl (cI, 8, .inl xF30)), (a9, .inr (2, [.int i77, .int i78, .int i79, .int i80, .int i81, .int i82, .int i83, .int i84, .int i85, .ref a121, .ref a122, .ref a123, .ref a124, .ref a125]))]) [2, 3, 4, 5, 6, 7, 8, 0, 1, 9] (by decide) rfl
    rw [hQ]
    exact W.iret (v := r1) hx hb hr (fun t ht hW => ⟨⟨r1, (pickG 0 [(u3 0)], pickG (fun _ => 0) [(U3 0), xF29, xF30], pickG (fun _ => 0) []), rfl, ⟨(show (0 : Int) ≤ (u3 0).toInt ∧ (u3 0).toInt ≤ 8 from ⟨by omega, by omega⟩), trivial⟩, (by rw [ht]; exact hP9), hD9⟩, hS.F ht⟩) hS.2.2 dX11_place_11
