theorem dX2_hasPawl_0 : decode cX2_hasPawl 0 = .ok (.iload_n 1, 1) := by decide +kernel
theorem dX2_hasPawl_1 : decode cX2_hasPawl 1 = .ok (.ifCond .lt 18, 3) := by decide +kernel
theorem dX2_hasPawl_4 : decode cX2_hasPawl 4 = .ok (.iload_n 1, 1) := by decide +kernel
theorem dX2_hasPawl_5 : decode cX2_hasPawl 5 = .ok (.aload_n 0, 1) := by decide +kernel
theorem dX2_hasPawl_6 : decode cX2_hasPawl 6 = .ok (.getfield 28, 3) := by decide +kernel
theorem dX2_hasPawl_9 : decode cX2_hasPawl 9 = .ok (.getfield 54, 3) := by decide +kernel
theorem dX2_hasPawl_12 : decode cX2_hasPawl 12 = .ok (.if_icmp .ge 7, 3) := by decide +kernel
theorem dX2_hasPawl_15 : decode cX2_hasPawl 15 = .ok (.iconst 1, 1) := by decide +kernel
theorem dX2_hasPawl_16 : decode cX2_hasPawl 16 = .ok (.goto 4, 3) := by decide +kernel
theorem dX2_hasPawl_19 : decode cX2_hasPawl 19 = .ok (.iconst 0, 1) := by decide +kernel
theorem dX2_hasPawl_20 : decode cX2_hasPawl 20 = .ok (.ireturn, 1) := by decide +kernel
set_option maxHeartbeats 4000000 in
set_option maxRecDepth 100000 in
theorem s_X2_hasPawl (l : Launch) (dC : Nat → ClassId) (dI : Nat → Nat → Nat) (cI cZ cB cJ cM cG : ClassId) (a0 a1 a2 a3 a4 a5 a22 a23 a24 a25 : Nat) (i0 i1 i2 i3 i4 i5 i6 i7 i8 i11 : Int32) (p0 : Int32) (sz : Nat) (p_0 : (0 : Int) ≤ i0.toInt ∧ i0.toInt ≤ 60) (p_1 : (0 : Int) ≤ i3.toInt ∧ i3.toInt ≤ 6) (p_2 : (0 : Int) ≤ i5.toInt ∧ i5.toInt ≤ 1) (p_3 : (0 : Int) ≤ i8.toInt ∧ i8.toInt ≤ 1) (p_4 : (0 : Int) ≤ i11.toInt ∧ i11.toInt ≤ 4) : Met l yX2_hasPawl (kw yX2_hasPawl cX2_hasPawl 2 (some .boolean)) ({ frames := 0, cells := 0, slots := 0, locals := 0 } : Room) (va_Pc [.ref a0, .int p0] (kPre dC dI [(cI, .int), (cZ, .boolean), (cB, .byte), (cJ, .long), (cM, .object RX2), (cG, .array .int)] [(a0, .inr (2, [.int i0, .int i1, .int i2, .int i3, .int i4, .int i5, .int i6, .int i7, .int i8, .ref a1, .ref a2, .ref a3, .ref a4, .ref a5])), (a3, .inr (4, [.int i11, .ref a22, .ref a23, .ref a24, .ref a25]))] sz)) (va_Qi (fun (r : Int32) (u9 : Unit) => ((0 : Int) ≤ r.toInt ∧ r.toInt ≤ 1) ∧ ((r.toInt ≠ 0 → p0.toInt ≥ 0 ∧ p0.toInt < i11.toInt)) ∧ True) (fun u9 t => va_P (dC, dI) vwCl [(a0, .inr (2, [.int i0, .int i1, .int i2, .int i3, .int i4, .int i5, .int i6, .int i7, .int i8, .ref a1, .ref a2, .ref a3, .ref a4, .ref a5])), (a3, .inr (4, [.int i11, .ref a22, .ref a23, .ref a24, .ref a25]))] t.heap ∧ va_D (va_A [(a0, .inr (2, [.int i0, .int i1, .int i2, .int i3, .int i4, .int i5, .int i6, .int i7, .int i8, .ref a1, .ref a2, .ref a3, .ref a4, .ref a5])), (a3, .inr (4, [.int i11, .ref a22, .ref a23, .ref a24, .ref a25]))] sz) [(a0, .inr (2, [.int i0, .int i1, .int i2, .int i3, .int i4, .int i5, .int i6, .int i7, .int i8, .ref a1, .ref a2, .ref a3, .ref a4, .ref a5])), (a3, .inr (4, [.int i11, .ref a22, .ref a23, .ref a24, .ref a25]))]) (va_A [(a0, .inr (2, [.int i0, .int i1, .int i2, .int i3, .int i4, .int i5, .int i6, .int i7, .int i8, .ref a1, .ref a2, .ref a3, .ref a4, .ref a5])), (a3, .inr (4, [.int i11, .ref a22, .ref a23, .ref a24, .ref a25]))] sz)) 0 0 (va_A [(a0, .inr (2, [.int i0, .int i1, .int i2, .int i3, .int i4, .int i5, .int i6, .int i7, .int i8, .ref a1, .ref a2, .ref a3, .ref a4, .ref a5])), (a3, .inr (4, [.int i11, .ref a22, .ref a23, .ref a24, .ref a25]))] sz) := by
  refine kEnter (by decide) (Nat.le_of_ble_eq_true rfl) ?_
  intro p e s m below meth c ls hx hb hr hml hown hlocks hin hwd hsz hP hK hD hl
  subst hsz
  generalize hAe : va_A [(a0, .inr (2, [.int i0, .int i1, .int i2, .int i3, .int i4, .int i5, .int i6, .int i7, .int i8, .ref a1, .ref a2, .ref a3, .ref a4, .ref a5])), (a3, .inr (4, [.int i11, .ref a22, .ref a23, .ref a24, .ref a25]))] s.heap.size = A at hD ⊢
  have hA : ∀ q : Nat, s.heap.size ≤ q → A q := fun q h => by rw [← hAe]; exact Or.inr h
  have hS : va_S A s.heap s.heap [] := va_S.rf
  have hl : lv_has ls 2 [(0, .ref a0), (1, .int p0)] := hl
  obtain ⟨Q, hQ⟩ : ∃ Q, Q = MQ below (va_Qi (fun (r : Int32) (u9 : Unit) => ((0 : Int) ≤ r.toInt ∧ r.toInt ≤ 1) ∧ ((r.toInt ≠ 0 → p0.toInt ≥ 0 ∧ p0.toInt < i11.toInt)) ∧ True) (fun u9 t => va_P (dC, dI) vwCl [(a0, .inr (2, [.int i0, .int i1, .int i2, .int i3, .int i4, .int i5, .int i6, .int i7, .int i8, .ref a1, .ref a2, .ref a3, .ref a4, .ref a5])), (a3, .inr (4, [.int i11, .ref a22, .ref a23, .ref a24, .ref a25]))] t.heap ∧ va_D A [(a0, .inr (2, [.int i0, .int i1, .int i2, .int i3, .int i4, .int i5, .int i6, .int i7, .int i8, .ref a1, .ref a2, .ref a3, .ref a4, .ref a5])), (a3, .inr (4, [.int i11, .ref a22, .ref a23, .ref a24, .ref a25]))]) A) ([.ref a0, .int p0] : List Value).toArray s 0 0 A := ⟨_, rfl⟩
  rw [← hQ]
  have k0 : (0 : Int32).toInt = 0 := by decide
  have k1 : (1 : Int32).toInt = 1 := by decide
  refine lv_iload_n hx hb dX2_hasPawl_0 rfl (lv_at hl 1 rfl) ?_
  refine lv_if_lt (tgt := 19) hx hb dX2_hasPawl_1 (by decide) (fun c1 => ?_) (fun c1 => ?_)
  · rw [ki_lt] at c1
    refine lv_iconst (v := 0) hx hb dX2_hasPawl_19 (by decide) ?_
    have hP9 := hP.sub (ws' := [(a0, .inr (2, [.int i0, .int i1, .int i2, .int i3, .int i4, .int i5, .int i6, .int i7, .int i8, .ref a1, .ref a2, .ref a3, .ref a4, .ref a5])), (a3, .inr (4, [.int i11, .ref a22, .ref a23, .ref a24, .ref a25]))]) [0, 1] rfl
    have hD9 := hD.sub (ws' := [(a0, .inr (2, [.int i0, .int i1, .int i2, .int i3, .int i4, .int i5, .int i6, .int i7, .int i8, .ref a1, .ref a2, .ref a3, .ref a4, .ref a5])), (a3, .inr (4, [.int i11, .ref a22, .ref a23, .ref a24, .ref a25]))]) [0, 1] (by decide) rfl
    rw [hQ]
    exact W.zret (v := 0) hx hb hr (by decide) (fun t ht hW => ⟨⟨0, (), rfl, ⟨(show (0 : Int) ≤ (0 : Int32).toInt ∧ (0 : Int32).toInt ≤ 1 from ⟨by omega, by omega⟩), (show ((0 : Int32).toInt ≠ 0 → p0.toInt ≥ 0 ∧ p0.toInt < i11.toInt) from by omega), trivial⟩, (by rw [ht]; exact hP9), hD9⟩, hS.F ht⟩) hS.2.2 dX2_hasPawl_20
  · rw [ki_lt] at c1
    refine lv_iload_n hx hb dX2_hasPawl_4 rfl (lv_at hl 1 rfl) ?_
    refine lv_aload_n hx hb dX2_hasPawl_5 rfl (lv_at hl 0 rfl) ?_
    refine va_get (D := (dC, dI)) (ci := 2) (v := .ref a3) (C := RX2) (T := TX2) (N := 14) hx hb hwd inlX2 hown hK hP 0 rfl rfl 11 (by decide) (hwd _ kr5_8) (fun _ h9 => h9) rfl dX2_hasPawl_6 ?_
    refine va_get (D := (dC, dI)) (ci := 4) (v := .int i11) (C := RX4) (T := TX4) (N := 5) hx hb hwd inlX4 hown hK hP 1 rfl rfl 0 (by decide) (hwd _ kr10_10) (fun _ h9 => h9) rfl dX2_hasPawl_9 ?_
    refine lv_icmp_ge (tgt := 19) hx hb dX2_hasPawl_12 (by decide) (fun c2 => ?_) (fun c2 => ?_)
    · rw [ki_le] at c2
      refine lv_iconst (v := 0) hx hb dX2_hasPawl_19 (by decide) ?_
      have hP9 := hP.sub (ws' := [(a0, .inr (2, [.int i0, .int i1, .int i2, .int i3, .int i4, .int i5, .int i6, .int i7, .int i8, .ref a1, .ref a2, .ref a3, .ref a4, .ref a5])), (a3, .inr (4, [.int i11, .ref a22, .ref a23, .ref a24, .ref a25]))]) [0, 1] rfl
      have hD9 := hD.sub (ws' := [(a0, .inr (2, [.int i0, .int i1, .int i2, .int i3, .int i4, .int i5, .int i6, .int i7, .int i8, .ref a1, .ref a2, .ref a3, .ref a4, .ref a5])), (a3, .inr (4, [.int i11, .ref a22, .ref a23, .ref a24, .ref a25]))]) [0, 1] (by decide) rfl
      rw [hQ]
      exact W.zret (v := 0) hx hb hr (by decide) (fun t ht hW => ⟨⟨0, (), rfl, ⟨(show (0 : Int) ≤ (0 : Int32).toInt ∧ (0 : Int32).toInt ≤ 1 from ⟨by omega, by omega⟩), (show ((0 : Int32).toInt ≠ 0 → p0.toInt ≥ 0 ∧ p0.toInt < i11.toInt) from by omega), trivial⟩, (by rw [ht]; exact hP9), hD9⟩, hS.F ht⟩) hS.2.2 dX2_hasPawl_20
    · rw [ki_le] at c2
      refine lv_iconst (v := 1) hx hb dX2_hasPawl_15 (by decide) ?_
      refine lv_goto (tgt := 20) hx hb dX2_hasPawl_16 (by decide) ?_
      have hP9 := hP.sub (ws' := [(a0, .inr (2, [.int i0, .int i1, .int i2, .int i3, .int i4, .int i5, .int i6, .int i7, .int i8, .ref a1, .ref a2, .ref a3, .ref a4, .ref a5])), (a3, .inr (4, [.int i11, .ref a22, .ref a23, .ref a24, .ref a25]))]) [0, 1] rfl
      have hD9 := hD.sub (ws' := [(a0, .inr (2, [.int i0, .int i1, .int i2, .int i3, .int i4, .int i5, .int i6, .int i7, .int i8, .ref a1, .ref a2, .ref a3, .ref a4, .ref a5])), (a3, .inr (4, [.int i11, .ref a22, .ref a23, .ref a24, .ref a25]))]) [0, 1] (by decide) rfl
      rw [hQ]
      exact W.zret (v := 1) hx hb hr (by decide) (fun t ht hW => ⟨⟨1, (), rfl, ⟨(show (0 : Int) ≤ (1 : Int32).toInt ∧ (1 : Int32).toInt ≤ 1 from ⟨by omega, by omega⟩), (show ((1 : Int32).toInt ≠ 0 → p0.toInt ≥ 0 ∧ p0.toInt < i11.toInt) from by omega), trivial⟩, (by rw [ht]; exact hP9), hD9⟩, hS.F ht⟩) hS.2.2 dX2_hasPawl_20
theorem dX2_isTold_0 : decode cX2_isTold 0 = .ok (.aload_n 0, 1) := by decide +kernel
theorem dX2_isTold_1 : decode cX2_isTold 1 = .ok (.getfield 43, 3) := by decide +kernel
theorem dX2_isTold_4 : decode cX2_isTold 4 = .ok (.ifCond .le 7, 3) := by decide +kernel
theorem dX2_isTold_7 : decode cX2_isTold 7 = .ok (.iconst 1, 1) := by decide +kernel
theorem dX2_isTold_8 : decode cX2_isTold 8 = .ok (.goto 4, 3) := by decide +kernel
theorem dX2_isTold_11 : decode cX2_isTold 11 = .ok (.iconst 0, 1) := by decide +kernel
theorem dX2_isTold_12 : decode cX2_isTold 12 = .ok (.ireturn, 1) := by decide +kernel
set_option maxHeartbeats 4000000 in
set_option maxRecDepth 100000 in
theorem s_X2_isTold (l : Launch) (dC : Nat → ClassId) (dI : Nat → Nat → Nat) (cI cZ cB cJ cM cG : ClassId) (a0 a1 a2 a3 a4 a5 : Nat) (i0 i1 i2 i3 i4 i5 i6 i7 i8 : Int32) (sz : Nat) (p_0 : (0 : Int) ≤ i0.toInt ∧ i0.toInt ≤ 60) (p_1 : (0 : Int) ≤ i3.toInt ∧ i3.toInt ≤ 6) (p_2 : (0 : Int) ≤ i5.toInt ∧ i5.toInt ≤ 1) (p_3 : (0 : Int) ≤ i8.toInt ∧ i8.toInt ≤ 1) : Met l yX2_isTold (kw yX2_isTold cX2_isTold 1 (some .boolean)) ({ frames := 0, cells := 0, slots := 0, locals := 0 } : Room) (va_Pc [.ref a0] (kPre dC dI [(cI, .int), (cZ, .boolean), (cB, .byte), (cJ, .long), (cM, .object RX2), (cG, .array .int)] [(a0, .inr (2, [.int i0, .int i1, .int i2, .int i3, .int i4, .int i5, .int i6, .int i7, .int i8, .ref a1, .ref a2, .ref a3, .ref a4, .ref a5]))] sz)) (va_Qi (fun (r : Int32) (u9 : Unit) => ((0 : Int) ≤ r.toInt ∧ r.toInt ≤ 1) ∧ ((r.toInt ≠ 0 → i0.toInt ≥ 1)) ∧ True) (fun u9 t => va_P (dC, dI) vwCl [(a0, .inr (2, [.int i0, .int i1, .int i2, .int i3, .int i4, .int i5, .int i6, .int i7, .int i8, .ref a1, .ref a2, .ref a3, .ref a4, .ref a5]))] t.heap ∧ va_D (va_A [(a0, .inr (2, [.int i0, .int i1, .int i2, .int i3, .int i4, .int i5, .int i6, .int i7, .int i8, .ref a1, .ref a2, .ref a3, .ref a4, .ref a5]))] sz) [(a0, .inr (2, [.int i0, .int i1, .int i2, .int i3, .int i4, .int i5, .int i6, .int i7, .int i8, .ref a1, .ref a2, .ref a3, .ref a4, .ref a5]))]) (va_A [(a0, .inr (2, [.int i0, .int i1, .int i2, .int i3, .int i4, .int i5, .int i6, .int i7, .int i8, .ref a1, .ref a2, .ref a3, .ref a4, .ref a5]))] sz)) 0 0 (va_A [(a0, .inr (2, [.int i0, .int i1, .int i2, .int i3, .int i4, .int i5, .int i6, .int i7, .int i8, .ref a1, .ref a2, .ref a3, .ref a4, .ref a5]))] sz) := by
  refine kEnter (by decide) (Nat.le_of_ble_eq_true rfl) ?_
  intro p e s m below meth c ls hx hb hr hml hown hlocks hin hwd hsz hP hK hD hl
  subst hsz
  generalize hAe : va_A [(a0, .inr (2, [.int i0, .int i1, .int i2, .int i3, .int i4, .int i5, .int i6, .int i7, .int i8, .ref a1, .ref a2, .ref a3, .ref a4, .ref a5]))] s.heap.size = A at hD ⊢
  have hA : ∀ q : Nat, s.heap.size ≤ q → A q := fun q h => by rw [← hAe]; exact Or.inr h
  have hS : va_S A s.heap s.heap [] := va_S.rf
  have hl : lv_has ls 1 [(0, .ref a0)] := hl
  obtain ⟨Q, hQ⟩ : ∃ Q, Q = MQ below (va_Qi (fun (r : Int32) (u9 : Unit) => ((0 : Int) ≤ r.toInt ∧ r.toInt ≤ 1) ∧ ((r.toInt ≠ 0 → i0.toInt ≥ 1)) ∧ True) (fun u9 t => va_P (dC, dI) vwCl [(a0, .inr (2, [.int i0, .int i1, .int i2, .int i3, .int i4, .int i5, .int i6, .int i7, .int i8, .ref a1, .ref a2, .ref a3, .ref a4, .ref a5]))] t.heap ∧ va_D A [(a0, .inr (2, [.int i0, .int i1, .int i2, .int i3, .int i4, .int i5, .int i6, .int i7, .int i8, .ref a1, .ref a2, .ref a3, .ref a4, .ref a5]))]) A) ([.ref a0] : List Value).toArray s 0 0 A := ⟨_, rfl⟩
  rw [← hQ]
  have k0 : (0 : Int32).toInt = 0 := by decide
  have k1 : (1 : Int32).toInt = 1 := by decide
  refine lv_aload_n hx hb dX2_isTold_0 rfl (lv_at hl 0 rfl) ?_
  refine va_get (D := (dC, dI)) (ci := 2) (v := .int i0) (C := RX2) (T := TX2) (N := 14) hx hb hwd inlX2 hown hK hP 0 rfl rfl 0 (by decide) (hwd _ kr9_23) (fun _ h9 => h9) rfl dX2_isTold_1 ?_
  refine lv_if_le (tgt := 11) hx hb dX2_isTold_4 (by decide) (fun c1 => ?_) (fun c1 => ?_)
  · rw [ki_le] at c1
    refine lv_iconst (v := 0) hx hb dX2_isTold_11 (by decide) ?_
    have hP9 := hP.sub (ws' := [(a0, .inr (2, [.int i0, .int i1, .int i2, .int i3, .int i4, .int i5, .int i6, .int i7, .int i8, .ref a1, .ref a2, .ref a3, .ref a4, .ref a5]))]) [0] rfl
    have hD9 := hD.sub (ws' := [(a0, .inr (2, [.int i0, .int i1, .int i2, .int i3, .int i4, .int i5, .int i6, .int i7, .int i8, .ref a1, .ref a2, .ref a3, .ref a4, .ref a5]))]) [0] (by decide) rfl
    rw [hQ]
    exact W.zret (v := 0) hx hb hr (by decide) (fun t ht hW => ⟨⟨0, (), rfl, ⟨(show (0 : Int) ≤ (0 : Int32).toInt ∧ (0 : Int32).toInt ≤ 1 from ⟨by omega, by omega⟩), (show ((0 : Int32).toInt ≠ 0 → i0.toInt ≥ 1) from by omega), trivial⟩, (by rw [ht]; exact hP9), hD9⟩, hS.F ht⟩) hS.2.2 dX2_isTold_12
  · rw [ki_le] at c1
    refine lv_iconst (v := 1) hx hb dX2_isTold_7 (by decide) ?_
    refine lv_goto (tgt := 12) hx hb dX2_isTold_8 (by decide) ?_
    have hP9 := hP.sub (ws' := [(a0, .inr (2, [.int i0, .int i1, .int i2, .int i3, .int i4, .int i5, .int i6, .int i7, .int i8, .ref a1, .ref a2, .ref a3, .ref a4, .ref a5]))]) [0] rfl
    have hD9 := hD.sub (ws' := [(a0, .inr (2, [.int i0, .int i1, .int i2, .int i3, .int i4, .int i5, .int i6, .int i7, .int i8, .ref a1, .ref a2, .ref a3, .ref a4, .ref a5]))]) [0] (by decide) rfl
    rw [hQ]
    exact W.zret (v := 1) hx hb hr (by decide) (fun t ht hW => ⟨⟨1, (), rfl, ⟨(show (0 : Int) ≤ (1 : Int32).toInt ∧ (1 : Int32).toInt ≤ 1 from ⟨by omega, by omega⟩), (show ((1 : Int32).toInt ≠ 0 → i0.toInt ≥ 1) from by omega), trivial⟩, (by rw [ht]; exact hP9), hD9⟩, hS.F ht⟩) hS.2.2 dX2_isTold_12
theorem dX2_round_0 : decode cX2_round 0 = .ok (.aload_n 0, 1) := by decide +kernel
theorem dX2_round_1 : decode cX2_round 1 = .ok (.getfield 43, 3) := by decide +kernel
theorem dX2_round_4 : decode cX2_round 4 = .ok (.iconst 1, 1) := by decide +kernel
theorem dX2_round_5 : decode cX2_round 5 = .ok (.if_icmp .ge 7, 3) := by decide +kernel
theorem dX2_round_8 : decode cX2_round 8 = .ok (.iconst 0, 1) := by decide +kernel
theorem dX2_round_9 : decode cX2_round 9 = .ok (.goto 11, 3) := by decide +kernel
theorem dX2_round_12 : decode cX2_round 12 = .ok (.iload_n 1, 1) := by decide +kernel
theorem dX2_round_13 : decode cX2_round 13 = .ok (.aload_n 0, 1) := by decide +kernel
theorem dX2_round_14 : decode cX2_round 14 = .ok (.getfield 43, 3) := by decide +kernel
theorem dX2_round_17 : decode cX2_round 17 = .ok (.invokestatic 55, 3) := by decide +kernel
theorem dX2_round_20 : decode cX2_round 20 = .ok (.ireturn, 1) := by decide +kernel
set_option maxHeartbeats 4000000 in
set_option maxRecDepth 100000 in
theorem s_X2_round (l : Launch) (dC : Nat → ClassId) (dI : Nat → Nat → Nat) (cI cZ cB cJ cM cG : ClassId) (a0 a1 a2 a3 a4 a5 : Nat) (i0 i1 i2 i3 i4 i5 i6 i7 i8 : Int32) (p0 : Int32) (sz : Nat) (p_0 : (0 : Int) ≤ i0.toInt ∧ i0.toInt ≤ 60) (p_1 : (0 : Int) ≤ i3.toInt ∧ i3.toInt ≤ 6) (p_2 : (0 : Int) ≤ i5.toInt ∧ i5.toInt ≤ 1) (p_3 : (0 : Int) ≤ i8.toInt ∧ i8.toInt ≤ 1) : Met l yX2_round (kw yX2_round cX2_round 2 (some .int)) ({ frames := 1, cells := 0, slots := 0, locals := 22 } : Room) (va_Pc [.ref a0, .int p0] (kPre dC dI [(cI, .int), (cZ, .boolean), (cB, .byte), (cJ, .long), (cM, .object RX2), (cG, .array .int)] [(a0, .inr (2, [.int i0, .int i1, .int i2, .int i3, .int i4, .int i5, .int i6, .int i7, .int i8, .ref a1, .ref a2, .ref a3, .ref a4, .ref a5]))] sz)) (va_Qi (fun (r : Int32) (u9 : Unit) => ((0 : Int) ≤ r.toInt ∧ r.toInt ≤ 59) ∧ True) (fun u9 t => va_P (dC, dI) vwCl [(a0, .inr (2, [.int i0, .int i1, .int i2, .int i3, .int i4, .int i5, .int i6, .int i7, .int i8, .ref a1, .ref a2, .ref a3, .ref a4, .ref a5]))] t.heap ∧ va_D (va_A [(a0, .inr (2, [.int i0, .int i1, .int i2, .int i3, .int i4, .int i5, .int i6, .int i7, .int i8, .ref a1, .ref a2, .ref a3, .ref a4, .ref a5]))] sz) [(a0, .inr (2, [.int i0, .int i1, .int i2, .int i3, .int i4, .int i5, .int i6, .int i7, .int i8, .ref a1, .ref a2, .ref a3, .ref a4, .ref a5]))]) (va_A [(a0, .inr (2, [.int i0, .int i1, .int i2, .int i3, .int i4, .int i5, .int i6, .int i7, .int i8, .ref a1, .ref a2, .ref a3, .ref a4, .ref a5]))] sz)) 0 0 (va_A [(a0, .inr (2, [.int i0, .int i1, .int i2, .int i3, .int i4, .int i5, .int i6, .int i7, .int i8, .ref a1, .ref a2, .ref a3, .ref a4, .ref a5]))] sz) := by
  refine kEnter (by decide) (Nat.le_of_ble_eq_true rfl) ?_
  intro p e s m below meth c ls hx hb hr hml hown hlocks hin hwd hsz hP hK hD hl
  subst hsz
  generalize hAe : va_A [(a0, .inr (2, [.int i0, .int i1, .int i2, .int i3, .int i4, .int i5, .int i6, .int i7, .int i8, .ref a1, .ref a2, .ref a3, .ref a4, .ref a5]))] s.heap.size = A at hD ⊢
  have hA : ∀ q : Nat, s.heap.size ≤ q → A q := fun q h => by rw [← hAe]; exact Or.inr h
  have hS : va_S A s.heap s.heap [] := va_S.rf
  have hl : lv_has ls 2 [(0, .ref a0), (1, .int p0)] := hl
  obtain ⟨Q, hQ⟩ : ∃ Q, Q = MQ below (va_Qi (fun (r : Int32) (u9 : Unit) => ((0 : Int) ≤ r.toInt ∧ r.toInt ≤ 59) ∧ True) (fun u9 t => va_P (dC, dI) vwCl [(a0, .inr (2, [.int i0, .int i1, .int i2, .int i3, .int i4, .int i5, .int i6, .int i7, .int i8, .ref a1, .ref a2, .ref a3, .ref a4, .ref a5]))] t.heap ∧ va_D A [(a0, .inr (2, [.int i0, .int i1, .int i2, .int i3, .int i4, .int i5, .int i6, .int i7, .int i8, .ref a1, .ref a2, .ref a3, .ref a4, .ref a5]))]) A) ([.ref a0, .int p0] : List Value).toArray s 0 0 A := ⟨_, rfl⟩
  rw [← hQ]
  have k0 : (0 : Int32).toInt = 0 := by decide
  have k1 : (1 : Int32).toInt = 1 := by decide
  refine lv_aload_n hx hb dX2_round_0 rfl (lv_at hl 0 rfl) ?_
  refine va_get (D := (dC, dI)) (ci := 2) (v := .int i0) (C := RX2) (T := TX2) (N := 14) hx hb hwd inlX2 hown hK hP 0 rfl rfl 0 (by decide) (hwd _ kr9_23) (fun _ h9 => h9) rfl dX2_round_1 ?_
  refine lv_iconst (v := 1) hx hb dX2_round_4 (by decide) ?_
  refine lv_icmp_ge (tgt := 12) hx hb dX2_round_5 (by decide) (fun c1 => ?_) (fun c1 => ?_)
  · rw [ki_le] at c1
    refine lv_iload_n hx hb dX2_round_12 rfl (lv_at hl 1 rfl) ?_
    refine lv_aload_n hx hb dX2_round_13 rfl (lv_at hl 0 rfl) ?_
    refine va_get (D := (dC, dI)) (ci := 2) (v := .int i0) (C := RX2) (T := TX2) (N := 14) hx hb hwd inlX2 hown hK hP 0 rfl rfl 0 (by decide) (hwd _ kr9_23) (fun _ h9 => h9) rfl dX2_round_14 ?_
    have hPc := hP.sub (ws' := []) [] rfl
    have hDc := hD.sub (ws' := []) [] (by decide) rfl
    have hFc := va_free (wc := []) hD hS hA [] rfl
    refine va_calli (va_runS (As := [.int p0, .int i0]) (rest := []) ⟨hx, hb, hml, hown, hwd⟩ (s_J9_floorMod_7cf53 l dC dI cI cZ cB cJ cM cG p0 i0 s.heap.size (show (1 : Int) ≤ i0.toInt ∧ i0.toInt ≤ 60 from ⟨by omega, by omega⟩)) (va_cwS 2 hwd (gSJ kr21_7 kr21_8 kr21_9 kr21_10) rfl rfl rfl (by decide +kernel) ⟨Nat.le_of_ble_eq_true rfl, Nat.le_of_ble_eq_true rfl⟩) (kPreS hPc hK hDc) rfl rfl hl.1 rfl (lv_room (Nat.le_of_ble_eq_true rfl)) dX2_round_17 ⟨Nat.le_of_ble_eq_true rfl, Nat.le_of_ble_eq_true rfl⟩) hS (fun q _ h => hFc q h) hFc (fun r2 u3 t H1 locs ht9 hvm hw hB hz1 hk1 hS => ?_)
    obtain ⟨hw4, -⟩ := hw
    have hw4 : 0 ≤ r2.toInt ∧ r2.toInt < i0.toInt := hw4
    obtain ⟨hP1, hD1⟩ := hB
    rw [ht9] at hP1
    obtain ⟨hP, hD⟩ := va_join (wr := [(a0, .inr (2, [.int i0, .int i1, .int i2, .int i3, .int i4, .int i5, .int i6, .int i7, .int i8, .ref a1, .ref a2, .ref a3, .ref a4, .ref a5]))]) (w1 := []) hP hD [] [0] rfl rfl (by decide) (by decide) hk1 hFc hP1 hD1
    generalize H1 = H at hP hS ⊢
    have hP : va_P (dC, dI) vwCl [(a0, .inr (2, [.int i0, .int i1, .int i2, .int i3, .int i4, .int i5, .int i6, .int i7, .int i8, .ref a1, .ref a2, .ref a3, .ref a4, .ref a5]))] H := hP
    have hD : va_D A [(a0, .inr (2, [.int i0, .int i1, .int i2, .int i3, .int i4, .int i5, .int i6, .int i7, .int i8, .ref a1, .ref a2, .ref a3, .ref a4, .ref a5]))] := hD
    have hP9 := hP.sub (ws' := [(a0, .inr (2, [.int i0, .int i1, .int i2, .int i3, .int i4, .int i5, .int i6, .int i7, .int i8, .ref a1, .ref a2, .ref a3, .ref a4, .ref a5]))]) [0] rfl
    have hD9 := hD.sub (ws' := [(a0, .inr (2, [.int i0, .int i1, .int i2, .int i3, .int i4, .int i5, .int i6, .int i7, .int i8, .ref a1, .ref a2, .ref a3, .ref a4, .ref a5]))]) [0] (by decide) rfl
    rw [hQ]
    exact W.iret (v := r2) hx hb hr (fun t ht hW => ⟨⟨r2, (), rfl, ⟨(show (0 : Int) ≤ r2.toInt ∧ r2.toInt ≤ 59 from ⟨by omega, by omega⟩), trivial⟩, (by rw [ht]; exact hP9), hD9⟩, hS.F ht⟩) hS.2.2 dX2_round_20
  · rw [ki_le] at c1
    refine lv_iconst (v := 0) hx hb dX2_round_8 (by decide) ?_
    refine lv_goto (tgt := 20) hx hb dX2_round_9 (by decide) ?_
    have hP9 := hP.sub (ws' := [(a0, .inr (2, [.int i0, .int i1, .int i2, .int i3, .int i4, .int i5, .int i6, .int i7, .int i8, .ref a1, .ref a2, .ref a3, .ref a4, .ref a5]))]) [0] rfl
    have hD9 := hD.sub (ws' := [(a0, .inr (2, [.int i0, .int i1, .int i2, .int i3, .int i4, .int i5, .int i6, .int i7, .int i8, .ref a1, .ref a2, .ref a3, .ref a4, .ref a5]))]) [0] (by decide) rfl
    rw [hQ]
    exact W.iret (v := 0) hx hb hr (fun t ht hW => ⟨⟨0, (), rfl, ⟨(show (0 : Int) ≤ (0 : Int32).toInt ∧ (0 : Int32).toInt ≤ 59 from ⟨by omega, by omega⟩), trivial⟩, (by rw [ht]; exact hP9), hD9⟩, hS.F ht⟩) hS.2.2 dX2_round_20
theorem dX2_secondStep_0 : decode cX2_secondStep 0 = .ok (.aload_n 0, 1) := by decide +kernel
theorem dX2_secondStep_1 : decode cX2_secondStep 1 = .ok (.getfield 61, 3) := by decide +kernel
theorem dX2_secondStep_4 : decode cX2_secondStep 4 = .ok (.iconst 1, 1) := by decide +kernel
theorem dX2_secondStep_5 : decode cX2_secondStep 5 = .ok (.if_icmp .ge 7, 3) := by decide +kernel
theorem dX2_secondStep_8 : decode cX2_secondStep 8 = .ok (.iconst 0, 1) := by decide +kernel
theorem dX2_secondStep_9 : decode cX2_secondStep 9 = .ok (.goto 18, 3) := by decide +kernel
theorem dX2_secondStep_12 : decode cX2_secondStep 12 = .ok (.aload_n 0, 1) := by decide +kernel
theorem dX2_secondStep_13 : decode cX2_secondStep 13 = .ok (.iload_n 1, 1) := by decide +kernel
theorem dX2_secondStep_14 : decode cX2_secondStep 14 = .ok (.aload_n 0, 1) := by decide +kernel
theorem dX2_secondStep_15 : decode cX2_secondStep 15 = .ok (.getfield 64, 3) := by decide +kernel
theorem dX2_secondStep_18 : decode cX2_secondStep 18 = .ok (.imul, 1) := by decide +kernel
theorem dX2_secondStep_19 : decode cX2_secondStep 19 = .ok (.aload_n 0, 1) := by decide +kernel
theorem dX2_secondStep_20 : decode cX2_secondStep 20 = .ok (.getfield 61, 3) := by decide +kernel
theorem dX2_secondStep_23 : decode cX2_secondStep 23 = .ok (.idiv, 1) := by decide +kernel
theorem dX2_secondStep_24 : decode cX2_secondStep 24 = .ok (.invokevirtual 67, 3) := by decide +kernel
theorem dX2_secondStep_27 : decode cX2_secondStep 27 = .ok (.ireturn, 1) := by decide +kernel
set_option maxHeartbeats 4000000 in
set_option maxRecDepth 100000 in
theorem s_X2_secondStep (l : Launch) (dC : Nat → ClassId) (dI : Nat → Nat → Nat) (cI cZ cB cJ cM cG : ClassId) (a0 a1 a2 a3 a4 a5 : Nat) (i0 i1 i2 i3 i4 i5 i6 i7 i8 : Int32) (p0 : Int32) (sz : Nat) (p_0 : (0 : Int) ≤ i0.toInt ∧ i0.toInt ≤ 60) (p_1 : (0 : Int) ≤ i3.toInt ∧ i3.toInt ≤ 6) (p_2 : (0 : Int) ≤ i5.toInt ∧ i5.toInt ≤ 1) (p_3 : (0 : Int) ≤ i8.toInt ∧ i8.toInt ≤ 1) : Met l yX2_secondStep (kw yX2_secondStep cX2_secondStep 2 (some .int)) ({ frames := 2, cells := 0, slots := 0, locals := 43 } : Room) (va_Pc [.ref a0, .int p0] (kPre dC dI [(cI, .int), (cZ, .boolean), (cB, .byte), (cJ, .long), (cM, .object RX2), (cG, .array .int)] [(a0, .inr (2, [.int i0, .int i1, .int i2, .int i3, .int i4, .int i5, .int i6, .int i7, .int i8, .ref a1, .ref a2, .ref a3, .ref a4, .ref a5]))] sz)) (va_Qi (fun (r : Int32) (u9 : Unit) => ((0 : Int) ≤ r.toInt ∧ r.toInt ≤ 59) ∧ True) (fun u9 t => va_P (dC, dI) vwCl [(a0, .inr (2, [.int i0, .int i1, .int i2, .int i3, .int i4, .int i5, .int i6, .int i7, .int i8, .ref a1, .ref a2, .ref a3, .ref a4, .ref a5]))] t.heap ∧ va_D (va_A [(a0, .inr (2, [.int i0, .int i1, .int i2, .int i3, .int i4, .int i5, .int i6, .int i7, .int i8, .ref a1, .ref a2, .ref a3, .ref a4, .ref a5]))] sz) [(a0, .inr (2, [.int i0, .int i1, .int i2, .int i3, .int i4, .int i5, .int i6, .int i7, .int i8, .ref a1, .ref a2, .ref a3, .ref a4, .ref a5]))]) (va_A [(a0, .inr (2, [.int i0, .int i1, .int i2, .int i3, .int i4, .int i5, .int i6, .int i7, .int i8, .ref a1, .ref a2, .ref a3, .ref a4, .ref a5]))] sz)) 0 0 (va_A [(a0, .inr (2, [.int i0, .int i1, .int i2, .int i3, .int i4, .int i5, .int i6, .int i7, .int i8, .ref a1, .ref a2, .ref a3, .ref a4, .ref a5]))] sz) := by
  refine kEnter (by decide) (Nat.le_of_ble_eq_true rfl) ?_
  intro p e s m below meth c ls hx hb hr hml hown hlocks hin hwd hsz hP hK hD hl
  subst hsz
  generalize hAe : va_A [(a0, .inr (2, [.int i0, .int i1, .int i2, .int i3, .int i4, .int i5, .int i6, .int i7, .int i8, .ref a1, .ref a2, .ref a3, .ref a4, .ref a5]))] s.heap.size = A at hD ⊢
  have hA : ∀ q : Nat, s.heap.size ≤ q → A q := fun q h => by rw [← hAe]; exact Or.inr h
  have hS : va_S A s.heap s.heap [] := va_S.rf
  have hl : lv_has ls 2 [(0, .ref a0), (1, .int p0)] := hl
  obtain ⟨Q, hQ⟩ : ∃ Q, Q = MQ below (va_Qi (fun (r : Int32) (u9 : Unit) => ((0 : Int) ≤ r.toInt ∧ r.toInt ≤ 59) ∧ True) (fun u9 t => va_P (dC, dI) vwCl [(a0, .inr (2, [.int i0, .int i1, .int i2, .int i3, .int i4, .int i5, .int i6, .int i7, .int i8, .ref a1, .ref a2, .ref a3, .ref a4, .ref a5]))] t.heap ∧ va_D A [(a0, .inr (2, [.int i0, .int i1, .int i2, .int i3, .int i4, .int i5, .int i6, .int i7, .int i8, .ref a1, .ref a2, .ref a3, .ref a4, .ref a5]))]) A) ([.ref a0, .int p0] : List Value).toArray s 0 0 A := ⟨_, rfl⟩
  rw [← hQ]
  have k0 : (0 : Int32).toInt = 0 := by decide
  have k1 : (1 : Int32).toInt = 1 := by decide
  refine lv_aload_n hx hb dX2_secondStep_0 rfl (lv_at hl 0 rfl) ?_
  refine va_get (D := (dC, dI)) (ci := 2) (v := .int i7) (C := RX2) (T := TX2) (N := 14) hx hb hwd inlX2 hown hK hP 0 rfl rfl 7 (by decide) (hwd _ kr10_6) (fun _ h9 => h9) rfl dX2_secondStep_1 ?_
  refine lv_iconst (v := 1) hx hb dX2_secondStep_4 (by decide) ?_
  refine lv_icmp_ge (tgt := 12) hx hb dX2_secondStep_5 (by decide) (fun c1 => ?_) (fun c1 => ?_)
  · rw [ki_le] at c1
    refine lv_aload_n hx hb dX2_secondStep_12 rfl (lv_at hl 0 rfl) ?_
    refine lv_iload_n hx hb dX2_secondStep_13 rfl (lv_at hl 1 rfl) ?_
    refine lv_aload_n hx hb dX2_secondStep_14 rfl (lv_at hl 0 rfl) ?_
    refine va_get (D := (dC, dI)) (ci := 2) (v := .int i6) (C := RX2) (T := TX2) (N := 14) hx hb hwd inlX2 hown hK hP 0 rfl rfl 6 (by decide) (hwd _ kr10_5) (fun _ h9 => h9) rfl dX2_secondStep_15 ?_
    refine lv_imul hx hb dX2_secondStep_18 ?_
    refine lv_topi (fun x2 ex2 => ?_)
    refine lv_aload_n hx hb dX2_secondStep_19 rfl (lv_at hl 0 rfl) ?_
    refine va_get (D := (dC, dI)) (ci := 2) (v := .int i7) (C := RX2) (T := TX2) (N := 14) hx hb hwd inlX2 hown hK hP 0 rfl rfl 7 (by decide) (hwd _ kr10_6) (fun _ h9 => h9) rfl dX2_secondStep_20 ?_
    refine lv_idiv hx hb dX2_secondStep_23 (fun h9 => by rw [ki_eq] at h9; omega) ?_
    refine lv_topi (fun x3 ex3 => ?_)
    have hPc := hP.sub (ws' := [(a0, .inr (2, [.int i0, .int i1, .int i2, .int i3, .int i4, .int i5, .int i6, .int i7, .int i8, .ref a1, .ref a2, .ref a3, .ref a4, .ref a5]))]) [0] rfl
    have hDc := hD.sub (ws' := [(a0, .inr (2, [.int i0, .int i1, .int i2, .int i3, .int i4, .int i5, .int i6, .int i7, .int i8, .ref a1, .ref a2, .ref a3, .ref a4, .ref a5]))]) [0] (by decide) rfl
    have hFc := va_free (wc := [(a0, .inr (2, [.int i0, .int i1, .int i2, .int i3, .int i4, .int i5, .int i6, .int i7, .int i8, .ref a1, .ref a2, .ref a3, .ref a4, .ref a5]))]) hD hS hA [0] rfl
    refine va_calli (va_runV (As := [.int x3]) (rest := []) ⟨hx, hb, hml, hown, hwd⟩ (s_X2_round l dC dI cI cZ cB cJ cM cG a0 a1 a2 a3 a4 a5 i0 i1 i2 i3 i4 i5 i6 i7 i8 x3 s.heap.size (show (0 : Int) ≤ i0.toInt ∧ i0.toInt ≤ 60 from ⟨by omega, by omega⟩) (show (0 : Int) ≤ i3.toInt ∧ i3.toInt ≤ 6 from ⟨by omega, by omega⟩) (show (0 : Int) ≤ i5.toInt ∧ i5.toInt ≤ 1 from ⟨by omega, by omega⟩) (show (0 : Int) ≤ i8.toInt ∧ i8.toInt ≤ 1 from ⟨by omega, by omega⟩)) (cwV 1 hwd (gV kr37_14 kr21_4 kr21_5 kr2_18 kr21_6) rfl rfl rfl (by decide +kernel) ⟨Nat.le_of_ble_eq_true rfl, Nat.le_of_ble_eq_true rfl⟩) (kPreV hPc hK hDc (ci := 2) (q0 := 0) rfl rfl) rfl rfl hl.1 rfl (lv_room (Nat.le_of_ble_eq_true rfl)) dX2_secondStep_24 ⟨Nat.le_of_ble_eq_true rfl, Nat.le_of_ble_eq_true rfl⟩) hS (fun q _ h => hFc q h) hFc (fun r4 u5 t H1 locs ht9 hvm hw hB hz1 hk1 hS => ?_)
    obtain ⟨hw6, -⟩ := hw
    have hw6 : (0 : Int) ≤ r4.toInt ∧ r4.toInt ≤ 59 := hw6
    obtain ⟨hP1, hD1⟩ := hB
    rw [ht9] at hP1
    obtain ⟨hP, hD⟩ := va_join (wr := []) (w1 := [(a0, .inr (2, [.int i0, .int i1, .int i2, .int i3, .int i4, .int i5, .int i6, .int i7, .int i8, .ref a1, .ref a2, .ref a3, .ref a4, .ref a5]))]) hP hD [0] [] rfl rfl (by decide) (by decide) hk1 hFc hP1 hD1
    generalize H1 = H at hP hS ⊢
    have hP : va_P (dC, dI) vwCl [(a0, .inr (2, [.int i0, .int i1, .int i2, .int i3, .int i4, .int i5, .int i6, .int i7, .int i8, .ref a1, .ref a2, .ref a3, .ref a4, .ref a5]))] H := hP
    have hD : va_D A [(a0, .inr (2, [.int i0, .int i1, .int i2, .int i3, .int i4, .int i5, .int i6, .int i7, .int i8, .ref a1, .ref a2, .ref a3, .ref a4, .ref a5]))] := hD
    have hP9 := hP.sub (ws' := [(a0, .inr (2, [.int i0, .int i1, .int i2, .int i3, .int i4, .int i5, .int i6, .int i7, .int i8, .ref a1, .ref a2, .ref a3, .ref a4, .ref a5]))]) [0] rfl
    have hD9 := hD.sub (ws' := [(a0, .inr (2, [.int i0, .int i1, .int i2, .int i3, .int i4, .int i5, .int i6, .int i7, .int i8, .ref a1, .ref a2, .ref a3, .ref a4, .ref a5]))]) [0] (by decide) rfl
    rw [hQ]
    exact W.iret (v := r4) hx hb hr (fun t ht hW => ⟨⟨r4, (), rfl, ⟨(show (0 : Int) ≤ r4.toInt ∧ r4.toInt ≤ 59 from ⟨by omega, by omega⟩), trivial⟩, (by rw [ht]; exact hP9), hD9⟩, hS.F ht⟩) hS.2.2 dX2_secondStep_27
  · rw [ki_le] at c1
    refine lv_iconst (v := 0) hx hb dX2_secondStep_8 (by decide) ?_
    refine lv_goto (tgt := 27) hx hb dX2_secondStep_9 (by decide) ?_
    have hP9 := hP.sub (ws' := [(a0, .inr (2, [.int i0, .int i1, .int i2, .int i3, .int i4, .int i5, .int i6, .int i7, .int i8, .ref a1, .ref a2, .ref a3, .ref a4, .ref a5]))]) [0] rfl
    have hD9 := hD.sub (ws' := [(a0, .inr (2, [.int i0, .int i1, .int i2, .int i3, .int i4, .int i5, .int i6, .int i7, .int i8, .ref a1, .ref a2, .ref a3, .ref a4, .ref a5]))]) [0] (by decide) rfl
    rw [hQ]
    exact W.iret (v := 0) hx hb hr (fun t ht hW => ⟨⟨0, (), rfl, ⟨(show (0 : Int) ≤ (0 : Int32).toInt ∧ (0 : Int32).toInt ≤ 59 from ⟨by omega, by omega⟩), trivial⟩, (by rw [ht]; exact hP9), hD9⟩, hS.F ht⟩) hS.2.2 dX2_secondStep_27
theorem dX2_clear_0 : decode cX2_clear 0 = .ok (.aload_n 0, 1) := by decide +kernel
theorem dX2_clear_1 : decode cX2_clear 1 = .ok (.iconst 0, 1) := by decide +kernel
theorem dX2_clear_2 : decode cX2_clear 2 = .ok (.putfield 43, 3) := by decide +kernel
theorem dX2_clear_5 : decode cX2_clear 5 = .ok (.aload_n 0, 1) := by decide +kernel
theorem dX2_clear_6 : decode cX2_clear 6 = .ok (.iconst 0, 1) := by decide +kernel
theorem dX2_clear_7 : decode cX2_clear 7 = .ok (.putfield 71, 3) := by decide +kernel
theorem dX2_clear_10 : decode cX2_clear 10 = .ok (.aload_n 0, 1) := by decide +kernel
theorem dX2_clear_11 : decode cX2_clear 11 = .ok (.iconst 0, 1) := by decide +kernel
theorem dX2_clear_12 : decode cX2_clear 12 = .ok (.putfield 74, 3) := by decide +kernel
theorem dX2_clear_15 : decode cX2_clear 15 = .ok (.aload_n 0, 1) := by decide +kernel
theorem dX2_clear_16 : decode cX2_clear 16 = .ok (.iconst 0, 1) := by decide +kernel
theorem dX2_clear_17 : decode cX2_clear 17 = .ok (.putfield 47, 3) := by decide +kernel
theorem dX2_clear_20 : decode cX2_clear 20 = .ok (.aload_n 0, 1) := by decide +kernel
theorem dX2_clear_21 : decode cX2_clear 21 = .ok (.iconst 0, 1) := by decide +kernel
theorem dX2_clear_22 : decode cX2_clear 22 = .ok (.putfield 77, 3) := by decide +kernel
theorem dX2_clear_25 : decode cX2_clear 25 = .ok (.aload_n 0, 1) := by decide +kernel
theorem dX2_clear_26 : decode cX2_clear 26 = .ok (.iconst 0, 1) := by decide +kernel
theorem dX2_clear_27 : decode cX2_clear 27 = .ok (.putfield 80, 3) := by decide +kernel
theorem dX2_clear_30 : decode cX2_clear 30 = .ok (.aload_n 0, 1) := by decide +kernel
theorem dX2_clear_31 : decode cX2_clear 31 = .ok (.iconst 1, 1) := by decide +kernel
theorem dX2_clear_32 : decode cX2_clear 32 = .ok (.putfield 64, 3) := by decide +kernel
theorem dX2_clear_35 : decode cX2_clear 35 = .ok (.aload_n 0, 1) := by decide +kernel
theorem dX2_clear_36 : decode cX2_clear 36 = .ok (.iconst 1, 1) := by decide +kernel
theorem dX2_clear_37 : decode cX2_clear 37 = .ok (.putfield 61, 3) := by decide +kernel
theorem dX2_clear_40 : decode cX2_clear 40 = .ok (.aload_n 0, 1) := by decide +kernel
theorem dX2_clear_41 : decode cX2_clear 41 = .ok (.iconst 0, 1) := by decide +kernel
theorem dX2_clear_42 : decode cX2_clear 42 = .ok (.putfield 84, 3) := by decide +kernel
theorem dX2_clear_45 : decode cX2_clear 45 = .ok (.aload_n 0, 1) := by decide +kernel
theorem dX2_clear_46 : decode cX2_clear 46 = .ok (.getfield 12, 3) := by decide +kernel
theorem dX2_clear_49 : decode cX2_clear 49 = .ok (.iconst 0, 1) := by decide +kernel
theorem dX2_clear_50 : decode cX2_clear 50 = .ok (.putfield 50, 3) := by decide +kernel
theorem dX2_clear_53 : decode cX2_clear 53 = .ok (.aload_n 0, 1) := by decide +kernel
theorem dX2_clear_54 : decode cX2_clear 54 = .ok (.getfield 21, 3) := by decide +kernel
theorem dX2_clear_57 : decode cX2_clear 57 = .ok (.iconst 0, 1) := by decide +kernel
theorem dX2_clear_58 : decode cX2_clear 58 = .ok (.putfield 53, 3) := by decide +kernel
theorem dX2_clear_61 : decode cX2_clear 61 = .ok (.aload_n 0, 1) := by decide +kernel
theorem dX2_clear_62 : decode cX2_clear 62 = .ok (.getfield 28, 3) := by decide +kernel
theorem dX2_clear_65 : decode cX2_clear 65 = .ok (.iconst 0, 1) := by decide +kernel
theorem dX2_clear_66 : decode cX2_clear 66 = .ok (.putfield 54, 3) := by decide +kernel
theorem dX2_clear_69 : decode cX2_clear 69 = .ok (.aload_n 0, 1) := by decide +kernel
theorem dX2_clear_70 : decode cX2_clear 70 = .ok (.getfield 35, 3) := by decide +kernel
theorem dX2_clear_73 : decode cX2_clear 73 = .ok (.invokevirtual 87, 3) := by decide +kernel
theorem dX2_clear_76 : decode cX2_clear 76 = .ok (.return_, 1) := by decide +kernel
set_option maxHeartbeats 4000000 in
set_option maxRecDepth 100000 in
theorem s_X2_clear (l : Launch) (dC : Nat → ClassId) (dI : Nat → Nat → Nat) (cI cZ cB cJ cM cG : ClassId) (a0 a1 a2 a3 a4 a5 a6 a7 a8 a9 a10 a11 a12 a13 a14 a15 a16 a17 a18 a19 a20 a21 a22 a23 a24 a25 : Nat) (i0 i1 i2 i3 i4 i5 i6 i7 i8 i9 i10 i11 i12 i13 i14 i15 i16 i17 i18 i19 : Int32) (sz : Nat) (p_0 : (0 : Int) ≤ i0.toInt ∧ i0.toInt ≤ 60) (p_1 : (0 : Int) ≤ i3.toInt ∧ i3.toInt ≤ 6) (p_2 : (0 : Int) ≤ i5.toInt ∧ i5.toInt ≤ 1) (p_3 : (0 : Int) ≤ i8.toInt ∧ i8.toInt ≤ 1) (p_4 : (0 : Int) ≤ i9.toInt ∧ i9.toInt ≤ 24) (p_5 : (0 : Int) ≤ i10.toInt ∧ i10.toInt ≤ 10) (p_6 : (0 : Int) ≤ i11.toInt ∧ i11.toInt ≤ 4) : Met l yX2_clear (kw yX2_clear cX2_clear 1 none) ({ frames := 1, cells := 0, slots := 0, locals := 20 } : Room) (va_Pc [.ref a0] (kPre dC dI [(cI, .int), (cZ, .boolean), (cB, .byte), (cJ, .long), (cM, .object RX2), (cG, .array .int)] [(a0, .inr (2, [.int i0, .int i1, .int i2, .int i3, .int i4, .int i5, .int i6, .int i7, .int i8, .ref a1, .ref a2, .ref a3, .ref a4, .ref a5])), (a1, .inr (3, [.int i9, .ref a6, .ref a7, .ref a8, .ref a9, .ref a10, .ref a11, .ref a12])), (a2, .inr (1, [.int i10, .ref a13, .ref a14, .ref a15, .ref a16, .ref a17, .ref a18, .ref a19, .ref a20, .ref a21])), (a3, .inr (4, [.int i11, .ref a22, .ref a23, .ref a24, .ref a25])), (a4, .inr (7, [.int i12, .int i13, .int i14, .int i15, .int i16, .int i17, .int i18, .int i19]))] sz)) (va_Qv (fun (u9 : (Nat → Int32) × (Nat → Nat → Int32) × (Nat → Nat → Int64)) => ((0 : Int) ≤ (u9.1 0).toInt ∧ (u9.1 0).toInt ≤ 60) ∧ ((0 : Int) ≤ (u9.1 3).toInt ∧ (u9.1 3).toInt ≤ 6) ∧ ((0 : Int) ≤ (u9.1 5).toInt ∧ (u9.1 5).toInt ≤ 1) ∧ ((0 : Int) ≤ (u9.1 8).toInt ∧ (u9.1 8).toInt ≤ 1) ∧ ((0 : Int) ≤ (u9.1 9).toInt ∧ (u9.1 9).toInt ≤ 24) ∧ ((0 : Int) ≤ (u9.1 10).toInt ∧ (u9.1 10).toInt ≤ 10) ∧ ((0 : Int) ≤ (u9.1 11).toInt ∧ (u9.1 11).toInt ≤ 4) ∧ True) (fun u9 t => va_P (dC, dI) vwCl [(a0, .inr (2, [.int (u9.1 0), .int (u9.1 1), .int (u9.1 2), .int (u9.1 3), .int (u9.1 4), .int (u9.1 5), .int (u9.1 6), .int (u9.1 7), .int (u9.1 8), .ref a1, .ref a2, .ref a3, .ref a4, .ref a5])), (a1, .inr (3, [.int (u9.1 9), .ref a6, .ref a7, .ref a8, .ref a9, .ref a10, .ref a11, .ref a12])), (a2, .inr (1, [.int (u9.1 10), .ref a13, .ref a14, .ref a15, .ref a16, .ref a17, .ref a18, .ref a19, .ref a20, .ref a21])), (a3, .inr (4, [.int (u9.1 11), .ref a22, .ref a23, .ref a24, .ref a25])), (a4, .inr (7, [.int (u9.1 12), .int (u9.1 13), .int (u9.1 14), .int (u9.1 15), .int (u9.1 16), .int (u9.1 17), .int (u9.1 18), .int (u9.1 19)]))] t.heap ∧ va_D (va_A [(a0, .inr (2, [.int i0, .int i1, .int i2, .int i3, .int i4, .int i5, .int i6, .int i7, .int i8, .ref a1, .ref a2, .ref a3, .ref a4, .ref a5])), (a1, .inr (3, [.int i9, .ref a6, .ref a7, .ref a8, .ref a9, .ref a10, .ref a11, .ref a12])), (a2, .inr (1, [.int i10, .ref a13, .ref a14, .ref a15, .ref a16, .ref a17, .ref a18, .ref a19, .ref a20, .ref a21])), (a3, .inr (4, [.int i11, .ref a22, .ref a23, .ref a24, .ref a25])), (a4, .inr (7, [.int i12, .int i13, .int i14, .int i15, .int i16, .int i17, .int i18, .int i19]))] sz) [(a0, .inr (2, [.int (u9.1 0), .int (u9.1 1), .int (u9.1 2), .int (u9.1 3), .int (u9.1 4), .int (u9.1 5), .int (u9.1 6), .int (u9.1 7), .int (u9.1 8), .ref a1, .ref a2, .ref a3, .ref a4, .ref a5])), (a1, .inr (3, [.int (u9.1 9), .ref a6, .ref a7, .ref a8, .ref a9, .ref a10, .ref a11, .ref a12])), (a2, .inr (1, [.int (u9.1 10), .ref a13, .ref a14, .ref a15, .ref a16, .ref a17, .ref a18, .ref a19, .ref a20, .ref a21])), (a3, .inr (4, [.int (u9.1 11), .ref a22, .ref a23, .ref a24, .ref a25])), (a4, .inr (7, [.int (u9.1 12), .int (u9.1 13), .int (u9.1 14), .int (u9.1 15), .int (u9.1 16), .int (u9.1 17), .int (u9.1 18), .int (u9.1 19)]))]) (va_A [(a0, .inr (2, [.int i0, .int i1, .int i2, .int i3, .int i4, .int i5, .int i6, .int i7, .int i8, .ref a1, .ref a2, .ref a3, .ref a4, .ref a5])), (a1, .inr (3, [.int i9, .ref a6, .ref a7, .ref a8, .ref a9, .ref a10, .ref a11, .ref a12])), (a2, .inr (1, [.int i10, .ref a13, .ref a14, .ref a15, .ref a16, .ref a17, .ref a18, .ref a19, .ref a20, .ref a21])), (a3, .inr (4, [.int i11, .ref a22, .ref a23, .ref a24, .ref a25])), (a4, .inr (7, [.int i12, .int i13, .int i14, .int i15, .int i16, .int i17, .int i18, .int i19]))] sz)) 0 0 (va_A [(a0, .inr (2, [.int i0, .int i1, .int i2, .int i3, .int i4, .int i5, .int i6, .int i7, .int i8, .ref a1, .ref a2, .ref a3, .ref a4, .ref a5])), (a1, .inr (3, [.int i9, .ref a6, .ref a7, .ref a8, .ref a9, .ref a10, .ref a11, .ref a12])), (a2, .inr (1, [.int i10, .ref a13, .ref a14, .ref a15, .ref a16, .ref a17, .ref a18, .ref a19, .ref a20, .ref a21])), (a3, .inr (4, [.int i11, .ref a22, .ref a23, .ref a24, .ref a25])), (a4, .inr (7, [.int i12, .int i13, .int i14, .int i15, .int i16, .int i17, .int i18, .int i19]))] sz) := by
  refine kEnter (by decide) (Nat.le_of_ble_eq_true rfl) ?_
  intro p e s m below meth c ls hx hb hr hml hown hlocks hin hwd hsz hP hK hD hl
  subst hsz
  generalize hAe : va_A [(a0, .inr (2, [.int i0, .int i1, .int i2, .int i3, .int i4, .int i5, .int i6, .int i7, .int i8, .ref a1, .ref a2, .ref a3, .ref a4, .ref a5])), (a1, .inr (3, [.int i9, .ref a6, .ref a7, .ref a8, .ref a9, .ref a10, .ref a11, .ref a12])), (a2, .inr (1, [.int i10, .ref a13, .ref a14, .ref a15, .ref a16, .ref a17, .ref a18, .ref a19, .ref a20, .ref a21])), (a3, .inr (4, [.int i11, .ref a22, .ref a23, .ref a24, .ref a25])), (a4, .inr (7, [.int i12, .int i13, .int i14, .int i15, .int i16, .int i17, .int i18, .int i19]))] s.heap.size = A at hD ⊢
  have hA : ∀ q : Nat, s.heap.size ≤ q → A q := fun q h => by rw [← hAe]; exact Or.inr h
  have hS : va_S A s.heap s.heap [] := va_S.rf
  have hl : lv_has ls 1 [(0, .ref a0)] := hl
  obtain ⟨Q, hQ⟩ : ∃ Q, Q = MQ below (va_Qv (fun (u9 : (Nat → Int32) × (Nat → Nat → Int32) × (Nat → Nat → Int64)) => ((0 : Int) ≤ (u9.1 0).toInt ∧ (u9.1 0).toInt ≤ 60) ∧ ((0 : Int) ≤ (u9.1 3).toInt ∧ (u9.1 3).toInt ≤ 6) ∧ ((0 : Int) ≤ (u9.1 5).toInt ∧ (u9.1 5).toInt ≤ 1) ∧ ((0 : Int) ≤ (u9.1 8).toInt ∧ (u9.1 8).toInt ≤ 1) ∧ ((0 : Int) ≤ (u9.1 9).toInt ∧ (u9.1 9).toInt ≤ 24) ∧ ((0 : Int) ≤ (u9.1 10).toInt ∧ (u9.1 10).toInt ≤ 10) ∧ ((0 : Int) ≤ (u9.1 11).toInt ∧ (u9.1 11).toInt ≤ 4) ∧ True) (fun u9 t => va_P (dC, dI) vwCl [(a0, .inr (2, [.int (u9.1 0), .int (u9.1 1), .int (u9.1 2), .int (u9.1 3), .int (u9.1 4), .int (u9.1 5), .int (u9.1 6), .int (u9.1 7), .int (u9.1 8), .ref a1, .ref a2, .ref a3, .ref a4, .ref a5])), (a1, .inr (3, [.int (u9.1 9), .ref a6, .ref a7, .ref a8, .ref a9, .ref a10, .ref a11, .ref a12])), (a2, .inr (1, [.int (u9.1 10), .ref a13, .ref a14, .ref a15, .ref a16, .ref a17, .ref a18, .ref a19, .ref a20, .ref a21])), (a3, .inr (4, [.int (u9.1 11), .ref a22, .ref a23, .ref a24, .ref a25])), (a4, .inr (7, [.int (u9.1 12), .int (u9.1 13), .int (u9.1 14), .int (u9.1 15), .int (u9.1 16), .int (u9.1 17), .int (u9.1 18), .int (u9.1 19)]))] t.heap ∧ va_D A [(a0, .inr (2, [.int (u9.1 0), .int (u9.1 1), .int (u9.1 2), .int (u9.1 3), .int (u9.1 4), .int (u9.1 5), .int (u9.1 6), .int (u9.1 7), .int (u9.1 8), .ref a1, .ref a2, .ref a3, .ref a4, .ref a5])), (a1, .inr (3, [.int (u9.1 9), .ref a6, .ref a7, .ref a8, .ref a9, .ref a10, .ref a11, .ref a12])), (a2, .inr (1, [.int (u9.1 10), .ref a13, .ref a14, .ref a15, .ref a16, .ref a17, .ref a18, .ref a19, .ref a20, .ref a21])), (a3, .inr (4, [.int (u9.1 11), .ref a22, .ref a23, .ref a24, .ref a25])), (a4, .inr (7, [.int (u9.1 12), .int (u9.1 13), .int (u9.1 14), .int (u9.1 15), .int (u9.1 16), .int (u9.1 17), .int (u9.1 18), .int (u9.1 19)]))]) A) ([.ref a0] : List Value).toArray s 0 0 A := ⟨_, rfl⟩
  rw [← hQ]
  have k0 : (0 : Int32).toInt = 0 := by decide
  refine lv_aload_n hx hb dX2_clear_0 rfl (lv_at hl 0 rfl) ?_
  refine lv_iconst (v := 0) hx hb dX2_clear_1 (by decide) ?_
  refine va_put (D := (dC, dI)) (ci := 2) (v := .int 0) (ty := .int) (C := RX2) (T := TX2) (N := 14) hx hb hwd inlX2 tyX2 tyX2_ok nmX2 hown hK hP hD hS 0 rfl rfl 0 (by decide) (hwd _ kr9_23) (fun _ h9 => h9) rfl (by decide +kernel) rfl rfl (Nat.le_of_ble_eq_true rfl) dX2_clear_2 (fun H locs hP hD hS => ?_)
  have hP : va_P (dC, dI) vwCl [(a0, .inr (2, [.int 0, .int i1, .int i2, .int i3, .int i4, .int i5, .int i6, .int i7, .int i8, .ref a1, .ref a2, .ref a3, .ref a4, .ref a5])), (a1, .inr (3, [.int i9, .ref a6, .ref a7, .ref a8, .ref a9, .ref a10, .ref a11, .ref a12])), (a2, .inr (1, [.int i10, .ref a13, .ref a14, .ref a15, .ref a16, .ref a17, .ref a18, .ref a19, .ref a20, .ref a21])), (a3, .inr (4, [.int i11, .ref a22, .ref a23, .ref a24, .ref a25])), (a4, .inr (7, [.int i12, .int i13, .int i14, .int i15, .int i16, .int i17, .int i18, .int i19]))] H := hP
  have hD : va_D A [(a0, .inr (2, [.int 0, .int i1, .int i2, .int i3, .int i4, .int i5, .int i6, .int i7, .int i8, .ref a1, .ref a2, .ref a3, .ref a4, .ref a5])), (a1, .inr (3, [.int i9, .ref a6, .ref a7, .ref a8, .ref a9, .ref a10, .ref a11, .ref a12])), (a2, .inr (1, [.int i10, .ref a13, .ref a14, .ref a15, .ref a16, .ref a17, .ref a18, .ref a19, .ref a20, .ref a21])), (a3, .inr (4, [.int i11, .ref a22, .ref a23, .ref a24, .ref a25])), (a4, .inr (7, [.int i12, .int i13, .int i14, .int i15, .int i16, .int i17, .int i18, .int i19]))] := hD
  refine lv_aload_n hx hb dX2_clear_5 rfl (lv_at hl 0 rfl) ?_
  refine lv_iconst (v := 0) hx hb dX2_clear_6 (by decide) ?_
  refine va_put (D := (dC, dI)) (ci := 2) (v := .int 0) (ty := .int) (C := RX2) (T := TX2) (N := 14) hx hb hwd inlX2 tyX2 tyX2_ok nmX2 hown hK hP hD hS 0 rfl rfl 1 (by decide) (hwd _ kr10_0) (fun _ h9 => h9) rfl (by decide +kernel) rfl rfl (Nat.le_of_ble_eq_true rfl) dX2_clear_7 (fun H locs hP hD hS => ?_)
  have hP : va_P (dC, dI) vwCl [(a0, .inr (2, [.int 0, .int 0, .int i2, .int i3, .int i4, .int i5, .int i6, .int i7, .int i8, .ref a1, .ref a2, .ref a3, .ref a4, .ref a5])), (a1, .inr (3, [.int i9, .ref a6, .ref a7, .ref a8, .ref a9, .ref a10, .ref a11, .ref a12])), (a2, .inr (1, [.int i10, .ref a13, .ref a14, .ref a15, .ref a16, .ref a17, .ref a18, .ref a19, .ref a20, .ref a21])), (a3, .inr (4, [.int i11, .ref a22, .ref a23, .ref a24, .ref a25])), (a4, .inr (7, [.int i12, .int i13, .int i14, .int i15, .int i16, .int i17, .int i18, .int i19]))] H := hP
  have hD : va_D A [(a0, .inr (2, [.int 0, .int 0, .int i2, .int i3, .int i4, .int i5, .int i6, .int i7, .int i8, .ref a1, .ref a2, .ref a3, .ref a4, .ref a5])), (a1, .inr (3, [.int i9, .ref a6, .ref a7, .ref a8, .ref a9, .ref a10, .ref a11, .ref a12])), (a2, .inr (1, [.int i10, .ref a13, .ref a14, .ref a15, .ref a16, .ref a17, .ref a18, .ref a19, .ref a20, .ref a21])), (a3, .inr (4, [.int i11, .ref a22, .ref a23, .ref a24, .ref a25])), (a4, .inr (7, [.int i12, .int i13, .int i14, .int i15, .int i16, .int i17, .int i18, .int i19]))] := hD
  refine lv_aload_n hx hb dX2_clear_10 rfl (lv_at hl 0 rfl) ?_
  refine lv_iconst (v := 0) hx hb dX2_clear_11 (by decide) ?_
  refine va_put (D := (dC, dI)) (ci := 2) (v := .int 0) (ty := .int) (C := RX2) (T := TX2) (N := 14) hx hb hwd inlX2 tyX2 tyX2_ok nmX2 hown hK hP hD hS 0 rfl rfl 2 (by decide) (hwd _ kr10_1) (fun _ h9 => h9) rfl (by decide +kernel) rfl rfl (Nat.le_of_ble_eq_true rfl) dX2_clear_12 (fun H locs hP hD hS => ?_)
  have hP : va_P (dC, dI) vwCl [(a0, .inr (2, [.int 0, .int 0, .int 0, .int i3, .int i4, .int i5, .int i6, .int i7, .int i8, .ref a1, .ref a2, .ref a3, .ref a4, .ref a5])), (a1, .inr (3, [.int i9, .ref a6, .ref a7, .ref a8, .ref a9, .ref a10, .ref a11, .ref a12])), (a2, .inr (1, [.int i10, .ref a13, .ref a14, .ref a15, .ref a16, .ref a17, .ref a18, .ref a19, .ref a20, .ref a21])), (a3, .inr (4, [.int i11, .ref a22, .ref a23, .ref a24, .ref a25])), (a4, .inr (7, [.int i12, .int i13, .int i14, .int i15, .int i16, .int i17, .int i18, .int i19]))] H := hP
  have hD : va_D A [(a0, .inr (2, [.int 0, .int 0, .int 0, .int i3, .int i4, .int i5, .int i6, .int i7, .int i8, .ref a1, .ref a2, .ref a3, .ref a4, .ref a5])), (a1, .inr (3, [.int i9, .ref a6, .ref a7, .ref a8, .ref a9, .ref a10, .ref a11, .ref a12])), (a2, .inr (1, [.int i10, .ref a13, .ref a14, .ref a15, .ref a16, .ref a17, .ref a18, .ref a19, .ref a20, .ref a21])), (a3, .inr (4, [.int i11, .ref a22, .ref a23, .ref a24, .ref a25])), (a4, .inr (7, [.int i12, .int i13, .int i14, .int i15, .int i16, .int i17, .int i18, .int i19]))] := hD
  refine lv_aload_n hx hb dX2_clear_15 rfl (lv_at hl 0 rfl) ?_
  refine lv_iconst (v := 0) hx hb dX2_clear_16 (by decide) ?_
  refine va_put (D := (dC, dI)) (ci := 2) (v := .int 0) (ty := .int) (C := RX2) (T := TX2) (N := 14) hx hb hwd inlX2 tyX2 tyX2_ok nmX2 hown hK hP hD hS 0 rfl rfl 3 (by decide) (hwd _ kr10_2) (fun _ h9 => h9) rfl (by decide +kernel) rfl rfl (Nat.le_of_ble_eq_true rfl) dX2_clear_17 (fun H locs hP hD hS => ?_)
  have hP : va_P (dC, dI) vwCl [(a0, .inr (2, [.int 0, .int 0, .int 0, .int 0, .int i4, .int i5, .int i6, .int i7, .int i8, .ref a1, .ref a2, .ref a3, .ref a4, .ref a5])), (a1, .inr (3, [.int i9, .ref a6, .ref a7, .ref a8, .ref a9, .ref a10, .ref a11, .ref a12])), (a2, .inr (1, [.int i10, .ref a13, .ref a14, .ref a15, .ref a16, .ref a17, .ref a18, .ref a19, .ref a20, .ref a21])), (a3, .inr (4, [.int i11, .ref a22, .ref a23, .ref a24, .ref a25])), (a4, .inr (7, [.int i12, .int i13, .int i14, .int i15, .int i16, .int i17, .int i18, .int i19]))] H := hP
  have hD : va_D A [(a0, .inr (2, [.int 0, .int 0, .int 0, .int 0, .int i4, .int i5, .int i6, .int i7, .int i8, .ref a1, .ref a2, .ref a3, .ref a4, .ref a5])), (a1, .inr (3, [.int i9, .ref a6, .ref a7, .ref a8, .ref a9, .ref a10, .ref a11, .ref a12])), (a2, .inr (1, [.int i10, .ref a13, .ref a14, .ref a15, .ref a16, .ref a17, .ref a18, .ref a19, .ref a20, .ref a21])), (a3, .inr (4, [.int i11, .ref a22, .ref a23, .ref a24, .ref a25])), (a4, .inr (7, [.int i12, .int i13, .int i14, .int i15, .int i16, .int i17, .int i18, .int i19]))] := hD
  refine lv_aload_n hx hb dX2_clear_20 rfl (lv_at hl 0 rfl) ?_
  refine lv_iconst (v := 0) hx hb dX2_clear_21 (by decide) ?_
  refine va_put (D := (dC, dI)) (ci := 2) (v := .int 0) (ty := .int) (C := RX2) (T := TX2) (N := 14) hx hb hwd inlX2 tyX2 tyX2_ok nmX2 hown hK hP hD hS 0 rfl rfl 4 (by decide) (hwd _ kr10_3) (fun _ h9 => h9) rfl (by decide +kernel) rfl rfl (Nat.le_of_ble_eq_true rfl) dX2_clear_22 (fun H locs hP hD hS => ?_)
  have hP : va_P (dC, dI) vwCl [(a0, .inr (2, [.int 0, .int 0, .int 0, .int 0, .int 0, .int i5, .int i6, .int i7, .int i8, .ref a1, .ref a2, .ref a3, .ref a4, .ref a5])), (a1, .inr (3, [.int i9, .ref a6, .ref a7, .ref a8, .ref a9, .ref a10, .ref a11, .ref a12])), (a2, .inr (1, [.int i10, .ref a13, .ref a14, .ref a15, .ref a16, .ref a17, .ref a18, .ref a19, .ref a20, .ref a21])), (a3, .inr (4, [.int i11, .ref a22, .ref a23, .ref a24, .ref a25])), (a4, .inr (7, [.int i12, .int i13, .int i14, .int i15, .int i16, .int i17, .int i18, .int i19]))] H := hP
  have hD : va_D A [(a0, .inr (2, [.int 0, .int 0, .int 0, .int 0, .int 0, .int i5, .int i6, .int i7, .int i8, .ref a1, .ref a2, .ref a3, .ref a4, .ref a5])), (a1, .inr (3, [.int i9, .ref a6, .ref a7, .ref a8, .ref a9, .ref a10, .ref a11, .ref a12])), (a2, .inr (1, [.int i10, .ref a13, .ref a14, .ref a15, .ref a16, .ref a17, .ref a18, .ref a19, .ref a20, .ref a21])), (a3, .inr (4, [.int i11, .ref a22, .ref a23, .ref a24, .ref a25])), (a4, .inr (7, [.int i12, .int i13, .int i14, .int i15, .int i16, .int i17, .int i18, .int i19]))] := hD
  refine lv_aload_n hx hb dX2_clear_25 rfl (lv_at hl 0 rfl) ?_
  refine lv_iconst (v := 0) hx hb dX2_clear_26 (by decide) ?_
  refine va_put (D := (dC, dI)) (ci := 2) (v := .int 0) (ty := .boolean) (C := RX2) (T := TX2) (N := 14) hx hb hwd inlX2 tyX2 tyX2_ok nmX2 hown hK hP hD hS 0 rfl rfl 5 (by decide) (hwd _ kr10_4) (fun _ h9 => h9) rfl (by decide +kernel) rfl rfl (Nat.le_of_ble_eq_true rfl) dX2_clear_27 (fun H locs hP hD hS => ?_)
  have hP : va_P (dC, dI) vwCl [(a0, .inr (2, [.int 0, .int 0, .int 0, .int 0, .int 0, .int 0, .int i6, .int i7, .int i8, .ref a1, .ref a2, .ref a3, .ref a4, .ref a5])), (a1, .inr (3, [.int i9, .ref a6, .ref a7, .ref a8, .ref a9, .ref a10, .ref a11, .ref a12])), (a2, .inr (1, [.int i10, .ref a13, .ref a14, .ref a15, .ref a16, .ref a17, .ref a18, .ref a19, .ref a20, .ref a21])), (a3, .inr (4, [.int i11, .ref a22, .ref a23, .ref a24, .ref a25])), (a4, .inr (7, [.int i12, .int i13, .int i14, .int i15, .int i16, .int i17, .int i18, .int i19]))] H := hP
  have hD : va_D A [(a0, .inr (2, [.int 0, .int 0, .int 0, .int 0, .int 0, .int 0, .int i6, .int i7, .int i8, .ref a1, .ref a2, .ref a3, .ref a4, .ref a5])), (a1, .inr (3, [.int i9, .ref a6, .ref a7, .ref a8, .ref a9, .ref a10, .ref a11, .ref a12])), (a2, .inr (1, [.int i10, .ref a13, .ref a14, .ref a15, .ref a16, .ref a17, .ref a18, .ref a19, .ref a20, .ref a21])), (a3, .inr (4, [.int i11, .ref a22, .ref a23, .ref a24, .ref a25])), (a4, .inr (7, [.int i12, .int i13, .int i14, .int i15, .int i16, .int i17, .int i18, .int i19]))] := hD
  refine lv_aload_n hx hb dX2_clear_30 rfl (lv_at hl 0 rfl) ?_
  refine lv_iconst (v := 1) hx hb dX2_clear_31 (by decide) ?_
  refine va_put (D := (dC, dI)) (ci := 2) (v := .int 1) (ty := .int) (C := RX2) (T := TX2) (N := 14) hx hb hwd inlX2 tyX2 tyX2_ok nmX2 hown hK hP hD hS 0 rfl rfl 6 (by decide) (hwd _ kr10_5) (fun _ h9 => h9) rfl (by decide +kernel) rfl rfl (Nat.le_of_ble_eq_true rfl) dX2_clear_32 (fun H locs hP hD hS => ?_)
  have hP : va_P (dC, dI) vwCl [(a0, .inr (2, [.int 0, .int 0, .int 0, .int 0, .int 0, .int 0, .int 1, .int i7, .int i8, .ref a1, .ref a2, .ref a3, .ref a4, .ref a5])), (a1, .inr (3, [.int i9, .ref a6, .ref a7, .ref a8, .ref a9, .ref a10, .ref a11, .ref a12])), (a2, .inr (1, [.int i10, .ref a13, .ref a14, .ref a15, .ref a16, .ref a17, .ref a18, .ref a19, .ref a20, .ref a21])), (a3, .inr (4, [.int i11, .ref a22, .ref a23, .ref a24, .ref a25])), (a4, .inr (7, [.int i12, .int i13, .int i14, .int i15, .int i16, .int i17, .int i18, .int i19]))] H := hP
  have hD : va_D A [(a0, .inr (2, [.int 0, .int 0, .int 0, .int 0, .int 0, .int 0, .int 1, .int i7, .int i8, .ref a1, .ref a2, .ref a3, .ref a4, .ref a5])), (a1, .inr (3, [.int i9, .ref a6, .ref a7, .ref a8, .ref a9, .ref a10, .ref a11, .ref a12])), (a2, .inr (1, [.int i10, .ref a13, .ref a14, .ref a15, .ref a16, .ref a17, .ref a18, .ref a19, .ref a20, .ref a21])), (a3, .inr (4, [.int i11, .ref a22, .ref a23, .ref a24, .ref a25])), (a4, .inr (7, [.int i12, .int i13, .int i14, .int i15, .int i16, .int i17, .int i18, .int i19]))] := hD
  refine lv_aload_n hx hb dX2_clear_35 rfl (lv_at hl 0 rfl) ?_
  refine lv_iconst (v := 1) hx hb dX2_clear_36 (by decide) ?_
  refine va_put (D := (dC, dI)) (ci := 2) (v := .int 1) (ty := .int) (C := RX2) (T := TX2) (N := 14) hx hb hwd inlX2 tyX2 tyX2_ok nmX2 hown hK hP hD hS 0 rfl rfl 7 (by decide) (hwd _ kr10_6) (fun _ h9 => h9) rfl (by decide +kernel) rfl rfl (Nat.le_of_ble_eq_true rfl) dX2_clear_37 (fun H locs hP hD hS => ?_)
  have hP : va_P (dC, dI) vwCl [(a0, .inr (2, [.int 0, .int 0, .int 0, .int 0, .int 0, .int 0, .int 1, .int 1, .int i8, .ref a1, .ref a2, .ref a3, .ref a4, .ref a5])), (a1, .inr (3, [.int i9, .ref a6, .ref a7, .ref a8, .ref a9, .ref a10, .ref a11, .ref a12])), (a2, .inr (1, [.int i10, .ref a13, .ref a14, .ref a15, .ref a16, .ref a17, .ref a18, .ref a19, .ref a20, .ref a21])), (a3, .inr (4, [.int i11, .ref a22, .ref a23, .ref a24, .ref a25])), (a4, .inr (7, [.int i12, .int i13, .int i14, .int i15, .int i16, .int i17, .int i18, .int i19]))] H := hP
  have hD : va_D A [(a0, .inr (2, [.int 0, .int 0, .int 0, .int 0, .int 0, .int 0, .int 1, .int 1, .int i8, .ref a1, .ref a2, .ref a3, .ref a4, .ref a5])), (a1, .inr (3, [.int i9, .ref a6, .ref a7, .ref a8, .ref a9, .ref a10, .ref a11, .ref a12])), (a2, .inr (1, [.int i10, .ref a13, .ref a14, .ref a15, .ref a16, .ref a17, .ref a18, .ref a19, .ref a20, .ref a21])), (a3, .inr (4, [.int i11, .ref a22, .ref a23, .ref a24, .ref a25])), (a4, .inr (7, [.int i12, .int i13, .int i14, .int i15, .int i16, .int i17, .int i18, .int i19]))] := hD
  refine lv_aload_n hx hb dX2_clear_40 rfl (lv_at hl 0 rfl) ?_
  refine lv_iconst (v := 0) hx hb dX2_clear_41 (by decide) ?_
  refine va_put (D := (dC, dI)) (ci := 2) (v := .int 0) (ty := .boolean) (C := RX2) (T := TX2) (N := 14) hx hb hwd inlX2 tyX2 tyX2_ok nmX2 hown hK hP hD hS 0 rfl rfl 8 (by decide) (hwd _ kr10_7) (fun _ h9 => h9) rfl (by decide +kernel) rfl rfl (Nat.le_of_ble_eq_true rfl) dX2_clear_42 (fun H locs hP hD hS => ?_)
  have hP : va_P (dC, dI) vwCl [(a0, .inr (2, [.int 0, .int 0, .int 0, .int 0, .int 0, .int 0, .int 1, .int 1, .int 0, .ref a1, .ref a2, .ref a3, .ref a4, .ref a5])), (a1, .inr (3, [.int i9, .ref a6, .ref a7, .ref a8, .ref a9, .ref a10, .ref a11, .ref a12])), (a2, .inr (1, [.int i10, .ref a13, .ref a14, .ref a15, .ref a16, .ref a17, .ref a18, .ref a19, .ref a20, .ref a21])), (a3, .inr (4, [.int i11, .ref a22, .ref a23, .ref a24, .ref a25])), (a4, .inr (7, [.int i12, .int i13, .int i14, .int i15, .int i16, .int i17, .int i18, .int i19]))] H := hP
  have hD : va_D A [(a0, .inr (2, [.int 0, .int 0, .int 0, .int 0, .int 0, .int 0, .int 1, .int 1, .int 0, .ref a1, .ref a2, .ref a3, .ref a4, .ref a5])), (a1, .inr (3, [.int i9, .ref a6, .ref a7, .ref a8, .ref a9, .ref a10, .ref a11, .ref a12])), (a2, .inr (1, [.int i10, .ref a13, .ref a14, .ref a15, .ref a16, .ref a17, .ref a18, .ref a19, .ref a20, .ref a21])), (a3, .inr (4, [.int i11, .ref a22, .ref a23, .ref a24, .ref a25])), (a4, .inr (7, [.int i12, .int i13, .int i14, .int i15, .int i16, .int i17, .int i18, .int i19]))] := hD
  refine lv_aload_n hx hb dX2_clear_45 rfl (lv_at hl 0 rfl) ?_
  refine va_get (D := (dC, dI)) (ci := 2) (v := .ref a1) (C := RX2) (T := TX2) (N := 14) hx hb hwd inlX2 hown hK hP 0 rfl rfl 9 (by decide) (hwd _ kr5_0) (fun _ h9 => h9) rfl dX2_clear_46 ?_
  refine lv_iconst (v := 0) hx hb dX2_clear_49 (by decide) ?_
  refine va_put (D := (dC, dI)) (ci := 3) (v := .int 0) (ty := .int) (C := RX3) (T := TX3) (N := 8) hx hb hwd inlX3 tyX3 tyX3_ok nmX3 hown hK hP hD hS 1 rfl rfl 0 (by decide) (hwd _ kr10_8) (fun _ h9 => h9) rfl (by decide +kernel) rfl rfl (Nat.le_of_ble_eq_true rfl) dX2_clear_50 (fun H locs hP hD hS => ?_)
  have hP : va_P (dC, dI) vwCl [(a0, .inr (2, [.int 0, .int 0, .int 0, .int 0, .int 0, .int 0, .int 1, .int 1, .int 0, .ref a1, .ref a2, .ref a3, .ref a4, .ref a5])), (a1, .inr (3, [.int 0, .ref a6, .ref a7, .ref a8, .ref a9, .ref a10, .ref a11, .ref a12])), (a2, .inr (1, [.int i10, .ref a13, .ref a14, .ref a15, .ref a16, .ref a17, .ref a18, .ref a19, .ref a20, .ref a21])), (a3, .inr (4, [.int i11, .ref a22, .ref a23, .ref a24, .ref a25])), (a4, .inr (7, [.int i12, .int i13, .int i14, .int i15, .int i16, .int i17, .int i18, .int i19]))] H := hP
  have hD : va_D A [(a0, .inr (2, [.int 0, .int 0, .int 0, .int 0, .int 0, .int 0, .int 1, .int 1, .int 0, .ref a1, .ref a2, .ref a3, .ref a4, .ref a5])), (a1, .inr (3, [.int 0, .ref a6, .ref a7, .ref a8, .ref a9, .ref a10, .ref a11, .ref a12])), (a2, .inr (1, [.int i10, .ref a13, .ref a14, .ref a15, .ref a16, .ref a17, .ref a18, .ref a19, .ref a20, .ref a21])), (a3, .inr (4, [.int i11, .ref a22, .ref a23, .ref a24, .ref a25])), (a4, .inr (7, [.int i12, .int i13, .int i14, .int i15, .int i16, .int i17, .int i18, .int i19]))] := hD
  refine lv_aload_n hx hb dX2_clear_53 rfl (lv_at hl 0 rfl) ?_
  refine va_get (D := (dC, dI)) (ci := 2) (v := .ref a2) (C := RX2) (T := TX2) (N := 14) hx hb hwd inlX2 hown hK hP 0 rfl rfl 10 (by decide) (hwd _ kr5_4) (fun _ h9 => h9) rfl dX2_clear_54 ?_
  refine lv_iconst (v := 0) hx hb dX2_clear_57 (by decide) ?_
  refine va_put (D := (dC, dI)) (ci := 1) (v := .int 0) (ty := .int) (C := RX1) (T := TX1) (N := 10) hx hb hwd inlX1 tyX1 tyX1_ok nmX1 hown hK hP hD hS 2 rfl rfl 0 (by decide) (hwd _ kr10_9) (fun _ h9 => h9) rfl (by decide +kernel) rfl rfl (Nat.le_of_ble_eq_true rfl) dX2_clear_58 (fun H locs hP hD hS => ?_)
  have hP : va_P (dC, dI) vwCl [(a0, .inr (2, [.int 0, .int 0, .int 0, .int 0, .int 0, .int 0, .int 1, .int 1, .int 0, .ref a1, .ref a2, .ref a3, .ref a4, .ref a5])), (a1, .inr (3, [.int 0, .ref a6, .ref a7, .ref a8, .ref a9, .ref a10, .ref a11, .ref a12])), (a2, .inr (1, [.int 0, .ref a13, .ref a14, .ref a15, .ref a16, .ref a17, .ref a18, .ref a19, .ref a20, .ref a21])), (a3, .inr (4, [.int i11, .ref a22, .ref a23, .ref a24, .ref a25])), (a4, .inr (7, [.int i12, .int i13, .int i14, .int i15, .int i16, .int i17, .int i18, .int i19]))] H := hP
  have hD : va_D A [(a0, .inr (2, [.int 0, .int 0, .int 0, .int 0, .int 0, .int 0, .int 1, .int 1, .int 0, .ref a1, .ref a2, .ref a3, .ref a4, .ref a5])), (a1, .inr (3, [.int 0, .ref a6, .ref a7, .ref a8, .ref a9, .ref a10, .ref a11, .ref a12])), (a2, .inr (1, [.int 0, .ref a13, .ref a14, .ref a15, .ref a16, .ref a17, .ref a18, .ref a19, .ref a20, .ref a21])), (a3, .inr (4, [.int i11, .ref a22, .ref a23, .ref a24, .ref a25])), (a4, .inr (7, [.int i12, .int i13, .int i14, .int i15, .int i16, .int i17, .int i18, .int i19]))] := hD
  refine lv_aload_n hx hb dX2_clear_61 rfl (lv_at hl 0 rfl) ?_
  refine va_get (D := (dC, dI)) (ci := 2) (v := .ref a3) (C := RX2) (T := TX2) (N := 14) hx hb hwd inlX2 hown hK hP 0 rfl rfl 11 (by decide) (hwd _ kr5_8) (fun _ h9 => h9) rfl dX2_clear_62 ?_
  refine lv_iconst (v := 0) hx hb dX2_clear_65 (by decide) ?_
  refine va_put (D := (dC, dI)) (ci := 4) (v := .int 0) (ty := .int) (C := RX4) (T := TX4) (N := 5) hx hb hwd inlX4 tyX4 tyX4_ok nmX4 hown hK hP hD hS 3 rfl rfl 0 (by decide) (hwd _ kr10_10) (fun _ h9 => h9) rfl (by decide +kernel) rfl rfl (Nat.le_of_ble_eq_true rfl) dX2_clear_66 (fun H locs hP hD hS => ?_)
  have hP : va_P (dC, dI) vwCl [(a0, .inr (2, [.int 0, .int 0, .int 0, .int 0, .int 0, .int 0, .int 1, .int 1, .int 0, .ref a1, .ref a2, .ref a3, .ref a4, .ref a5])), (a1, .inr (3, [.int 0, .ref a6, .ref a7, .ref a8, .ref a9, .ref a10, .ref a11, .ref a12])), (a2, .inr (1, [.int 0, .ref a13, .ref a14, .ref a15, .ref a16, .ref a17, .ref a18, .ref a19, .ref a20, .ref a21])), (a3, .inr (4, [.int 0, .ref a22, .ref a23, .ref a24, .ref a25])), (a4, .inr (7, [.int i12, .int i13, .int i14, .int i15, .int i16, .int i17, .int i18, .int i19]))] H := hP
  have hD : va_D A [(a0, .inr (2, [.int 0, .int 0, .int 0, .int 0, .int 0, .int 0, .int 1, .int 1, .int 0, .ref a1, .ref a2, .ref a3, .ref a4, .ref a5])), (a1, .inr (3, [.int 0, .ref a6, .ref a7, .ref a8, .ref a9, .ref a10, .ref a11, .ref a12])), (a2, .inr (1, [.int 0, .ref a13, .ref a14, .ref a15, .ref a16, .ref a17, .ref a18, .ref a19, .ref a20, .ref a21])), (a3, .inr (4, [.int 0, .ref a22, .ref a23, .ref a24, .ref a25])), (a4, .inr (7, [.int i12, .int i13, .int i14, .int i15, .int i16, .int i17, .int i18, .int i19]))] := hD
  refine lv_aload_n hx hb dX2_clear_69 rfl (lv_at hl 0 rfl) ?_
  refine va_get (D := (dC, dI)) (ci := 2) (v := .ref a4) (C := RX2) (T := TX2) (N := 14) hx hb hwd inlX2 hown hK hP 0 rfl rfl 12 (by decide) (hwd _ kr5_12) (fun _ h9 => h9) rfl dX2_clear_70 ?_
  have hPc := hP.sub (ws' := [(a4, .inr (7, [.int i12, .int i13, .int i14, .int i15, .int i16, .int i17, .int i18, .int i19]))]) [4] rfl
  have hDc := hD.sub (ws' := [(a4, .inr (7, [.int i12, .int i13, .int i14, .int i15, .int i16, .int i17, .int i18, .int i19]))]) [4] (by decide) rfl
  have hFc := va_free (wc := [(a4, .inr (7, [.int i12, .int i13, .int i14, .int i15, .int i16, .int i17, .int i18, .int i19]))]) hD hS hA [4] rfl
  refine va_callv (va_runV (As := []) (rest := []) ⟨hx, hb, hml, hown, hwd⟩ (s_X7_clear l dC dI cI cZ cB cJ cM cG a4 i12 i13 i14 i15 i16 i17 i18 i19 H.size) (cwV 0 hwd (gV kr10_11 kr10_12 kr10_13 kr5_11 kr10_14) rfl rfl rfl (by decide +kernel) ⟨Nat.le_of_ble_eq_true rfl, Nat.le_of_ble_eq_true rfl⟩) (kPreV hPc hK hDc (ci := 7) (q0 := 0) rfl rfl) rfl rfl hl.1 rfl (lv_room (Nat.le_of_ble_eq_true rfl)) dX2_clear_73 ⟨Nat.le_of_ble_eq_true rfl, Nat.le_of_ble_eq_true rfl⟩) hS (fun q _ h => hFc q h) hFc (fun u2 t H1 locs ht9 hvm hw hB hz1 hk1 hS => ?_)
  obtain ⟨u3, U3, V3⟩ := u2
  obtain ⟨hP1, hD1⟩ := hB
  rw [ht9] at hP1
  obtain ⟨hP, hD⟩ := va_join (wr := [(a0, .inr (2, [.int 0, .int 0, .int 0, .int 0, .int 0, .int 0, .int 1, .int 1, .int 0, .ref a1, .ref a2, .ref a3, .ref a4, .ref a5])), (a1, .inr (3, [.int 0, .ref a6, .ref a7, .ref a8, .ref a9, .ref a10, .ref a11, .ref a12])), (a2, .inr (1, [.int 0, .ref a13, .ref a14, .ref a15, .ref a16, .ref a17, .ref a18, .ref a19, .ref a20, .ref a21])), (a3, .inr (4, [.int 0, .ref a22, .ref a23, .ref a24, .ref a25]))]) (w1 := [(a4, .inr (7, [.int (u3 0), .int (u3 1), .int (u3 2), .int (u3 3), .int (u3 4), .int (u3 5), .int (u3 6), .int (u3 7)]))]) hP hD [4] [0, 1, 2, 3] rfl rfl (by decide) (by decide) hk1 hFc hP1 hD1
  generalize H1 = H at hP hS ⊢
  have hP : va_P (dC, dI) vwCl [(a0, .inr (2, [.int 0, .int 0, .int 0, .int 0, .int 0, .int 0, .int 1, .int 1, .int 0, .ref a1, .ref a2, .ref a3, .ref a4, .ref a5])), (a1, .inr (3, [.int 0, .ref a6, .ref a7, .ref a8, .ref a9, .ref a10, .ref a11, .ref a12])), (a2, .inr (1, [.int 0, .ref a13, .ref a14, .ref a15, .ref a16, .ref a17, .ref a18, .ref a19, .ref a20, .ref a21])), (a3, .inr (4, [.int 0, .ref a22, .ref a23, .ref a24, .ref a25])), (a4, .inr (7, [.int (u3 0), .int (u3 1), .int (u3 2), .int (u3 3), .int (u3 4), .int (u3 5), .int (u3 6), .int (u3 7)]))] H := hP
  have hD : va_D A [(a0, .inr (2, [.int 0, .int 0, .int 0, .int 0, .int 0, .int 0, .int 1, .int 1, .int 0, .ref a1, .ref a2, .ref a3, .ref a4, .ref a5])), (a1, .inr (3, [.int 0, .ref a6, .ref a7, .ref a8, .ref a9, .ref a10, .ref a11, .ref a12])), (a2, .inr (1, [.int 0, .ref a13, .ref a14, .ref a15, .ref a16, .ref a17, .ref a18, .ref a19, .ref a20, .ref a21])), (a3, .inr (4, [.int 0, .ref a22, .ref a23, .ref a24, .ref a25])), (a4, .inr (7, [.int (u3 0), .int (u3 1), .int (u3 2), .int (u3 3), .int (u3 4), .int (u3 5), .int (u3 6), .int (u3 7)]))] := hD
  have hP9 := hP.sub (ws' := [(a0, .inr (2, [.int 0, .int 0, .int 0, .int 0, .int 0, .int 0, .int 1, .int 1, .int 0, .ref a1, .ref a2, .ref a3, .ref a4, .ref a5])), (a1, .inr (3, [.int 0, .ref a6, .ref a7, .ref a8, .ref a9, .ref a10, .ref a11, .ref a12])), (a2, .inr (1, [.int 0, .ref a13, .ref a14, .ref a15, .ref a16, .ref a17, .ref a18, .ref a19, .ref a20, .ref a21])), (a3, .inr (4, [.int 0, .ref a22, .ref a23, .ref a24, .ref a25])), (a4, .inr (7, [.int (u3 0), .int (u3 1), .int (u3 2), .int (u3 3), .int (u3 4), .int (u3 5), .int (u3 6), .int (u3 7)]))]) [0, 1, 2, 3, 4] rfl
  have hD9 := hD.sub (ws' := [(a0, .inr (2, [.int 0, .int 0, .int 0, .int 0, .int 0, .int 0, .int 1, .int 1, .int 0, .ref a1, .ref a2, .ref a3, .ref a4, .ref a5])), (a1, .inr (3, [.int 0, .ref a6, .ref a7, .ref a8, .ref a9, .ref a10, .ref a11, .ref a12])), (a2, .inr (1, [.int 0, .ref a13, .ref a14, .ref a15, .ref a16, .ref a17, .ref a18, .ref a19, .ref a20, .ref a21])), (a3, .inr (4, [.int 0, .ref a22, .ref a23, .ref a24, .ref a25])), (a4, .inr (7, [.int (u3 0), .int (u3 1), .int (u3 2), .int (u3 3), .int (u3 4), .int (u3 5), .int (u3 6), .int (u3 7)]))]) [0, 1, 2, 3, 4] (by decide) rfl
  rw [hQ]
  exact W.vret hx hb hr (fun t ht hW => ⟨⟨(pickG 0 [0, 0, 0, 0, 0, 0, 1, 1, 0, 0, 0, 0, (u3 0), (u3 1), (u3 2), (u3 3), (u3 4), (u3 5), (u3 6), (u3 7)], pickG (fun _ => 0) [], pickG (fun _ => 0) []), rfl, ⟨(show (0 : Int) ≤ (0 : Int32).toInt ∧ (0 : Int32).toInt ≤ 60 from ⟨by omega, by omega⟩), (show (0 : Int) ≤ (0 : Int32).toInt ∧ (0 : Int32).toInt ≤ 6 from ⟨by omega, by omega⟩), (show (0 : Int) ≤ (0 : Int32).toInt ∧ (0 : Int32).toInt ≤ 1 from ⟨by omega, by omega⟩), (show (0 : Int) ≤ (0 : Int32).toInt ∧ (0 : Int32).toInt ≤ 1 from ⟨by omega, by omega⟩), (show (0 : Int) ≤ (0 : Int32).toInt ∧ (0 : Int32).toInt ≤ 24 from ⟨by omega, by omega⟩), (show (0 : Int) ≤ (0 : Int32).toInt ∧ (0 : Int32).toInt ≤ 10 from ⟨by omega, by omega⟩), (show (0 : Int) ≤ (0 : Int32).toInt ∧ (0 : Int32).toInt ≤ 4 from ⟨by omega, by omega⟩), trivial⟩, (by rw [ht]; exact hP9), hD9⟩, hS.F ht⟩) hS.2.2 dX2_clear_76
