theorem dX1_below_0 : decode cX1_below 0 = .ok (.aload_n 0, 1) := by decide +kernel
theorem dX1_below_1 : decode cX1_below 1 = .ok (.getfield 15, 3) := by decide +kernel
theorem dX1_below_4 : decode cX1_below 4 = .ok (.iload_n 1, 1) := by decide +kernel
theorem dX1_below_5 : decode cX1_below 5 = .ok (.iaload, 1) := by decide +kernel
theorem dX1_below_6 : decode cX1_below 6 = .ok (.ifCond .lt 13, 3) := by decide +kernel
theorem dX1_below_9 : decode cX1_below 9 = .ok (.aload_n 0, 1) := by decide +kernel
theorem dX1_below_10 : decode cX1_below 10 = .ok (.getfield 15, 3) := by decide +kernel
theorem dX1_below_13 : decode cX1_below 13 = .ok (.iload_n 1, 1) := by decide +kernel
theorem dX1_below_14 : decode cX1_below 14 = .ok (.iaload, 1) := by decide +kernel
theorem dX1_below_15 : decode cX1_below 15 = .ok (.iload_n 1, 1) := by decide +kernel
theorem dX1_below_16 : decode cX1_below 16 = .ok (.if_icmp .lt 7, 3) := by decide +kernel
theorem dX1_below_19 : decode cX1_below 19 = .ok (.iconst 0, 1) := by decide +kernel
theorem dX1_below_20 : decode cX1_below 20 = .ok (.goto 9, 3) := by decide +kernel
theorem dX1_below_23 : decode cX1_below 23 = .ok (.aload_n 0, 1) := by decide +kernel
theorem dX1_below_24 : decode cX1_below 24 = .ok (.getfield 15, 3) := by decide +kernel
theorem dX1_below_27 : decode cX1_below 27 = .ok (.iload_n 1, 1) := by decide +kernel
theorem dX1_below_28 : decode cX1_below 28 = .ok (.iaload, 1) := by decide +kernel
theorem dX1_below_29 : decode cX1_below 29 = .ok (.ireturn, 1) := by decide +kernel
set_option maxHeartbeats 4000000 in
set_option maxRecDepth 100000 in
theorem s_X1_below (l : Launch) (dC : Nat → ClassId) (dI : Nat → Nat → Nat) (cI cZ cB cJ cM cG : ClassId) (a0 a1 a2 a3 a4 a5 a6 a7 a8 a9 : Nat) (i0 : Int32) (xF1 : Nat → Int32) (p0 : Int32) (sz : Nat) (p_0 : (0 : Int) ≤ i0.toInt ∧ i0.toInt ≤ 10) (p_1 : (0 : Int) ≤ p0.toInt ∧ p0.toInt ≤ 9) : Met l yX1_below (kw yX1_below cX1_below 2 (some .int)) ({ frames := 0, cells := 0, slots := 0, locals := 0 } : Room) (va_Pc [.ref a0, .int p0] (kPre dC dI [(cI, .int), (cZ, .boolean), (cB, .byte), (cJ, .long), (cM, .object RX2), (cG, .array .int)] [(a0, .inr (1, [.int i0, .ref a1, .ref a2, .ref a3, .ref a4, .ref a5, .ref a6, .ref a7, .ref a8, .ref a9])), (a2, .inl (cI, 10, .inl xF1))] sz)) (va_Qi (fun (r : Int32) (u9 : Unit) => ((0 : Int) ≤ r.toInt ∧ r.toInt ≤ 8) ∧ True) (fun u9 t => va_P (dC, dI) vwCl [(a0, .inr (1, [.int i0, .ref a1, .ref a2, .ref a3, .ref a4, .ref a5, .ref a6, .ref a7, .ref a8, .ref a9])), (a2, .inl (cI, 10, .inl xF1))] t.heap ∧ va_D (va_A [(a0, .inr (1, [.int i0, .ref a1, .ref a2, .ref a3, .ref a4, .ref a5, .ref a6, .ref a7, .ref a8, .ref a9])), (a2, .inl (cI, 10, .inl xF1))] sz) [(a0, .inr (1, [.int i0, .ref a1, .ref a2, .ref a3, .ref a4, .ref a5, .ref a6, .ref a7, .ref a8, .ref a9])), (a2, .inl (cI, 10, .inl xF1))]) (va_A [(a0, .inr (1, [.int i0, .ref a1, .ref a2, .ref a3, .ref a4, .ref a5, .ref a6, .ref a7, .ref a8, .ref a9])), (a2, .inl (cI, 10, .inl xF1))] sz)) 0 0 (va_A [(a0, .inr (1, [.int i0, .ref a1, .ref a2, .ref a3, .ref a4, .ref a5, .ref a6, .ref a7, .ref a8, .ref a9])), (a2, .inl (cI, 10, .inl xF1))] sz) := by
  refine kEnter (by decide) (Nat.le_of_ble_eq_true rfl) ?_
  intro p e s m below meth c ls hx hb hr hml hown hlocks hin hwd hsz hP hK hD hl
  subst hsz
  generalize hAe : va_A [(a0, .inr (1, [.int i0, .ref a1, .ref a2, .ref a3, .ref a4, .ref a5, .ref a6, .ref a7, .ref a8, .ref a9])), (a2, .inl (cI, 10, .inl xF1))] s.heap.size = A at hD ⊢
  have hA : ∀ q : Nat, s.heap.size ≤ q → A q := fun q h => by rw [← hAe]; exact Or.inr h
  have hS : va_S A s.heap s.heap [] := va_S.rf
  have hl : lv_has ls 2 [(0, .ref a0), (1, .int p0)] := hl
  obtain ⟨Q, hQ⟩ : ∃ Q, Q = MQ below (va_Qi (fun (r : Int32) (u9 : Unit) => ((0 : Int) ≤ r.toInt ∧ r.toInt ≤ 8) ∧ True) (fun u9 t => va_P (dC, dI) vwCl [(a0, .inr (1, [.int i0, .ref a1, .ref a2, .ref a3, .ref a4, .ref a5, .ref a6, .ref a7, .ref a8, .ref a9])), (a2, .inl (cI, 10, .inl xF1))] t.heap ∧ va_D A [(a0, .inr (1, [.int i0, .ref a1, .ref a2, .ref a3, .ref a4, .ref a5, .ref a6, .ref a7, .ref a8, .ref a9])), (a2, .inl (cI, 10, .inl xF1))]) A) ([.ref a0, .int p0] : List Value).toArray s 0 0 A := ⟨_, rfl⟩
  rw [← hQ]
  have k0 : (0 : Int32).toInt = 0 := by decide
  refine lv_aload_n hx hb dX1_below_0 rfl (lv_at hl 0 rfl) ?_
  refine va_get (D := (dC, dI)) (ci := 1) (v := .ref a2) (C := RX1) (T := TX1) (N := 10) hx hb hwd inlX1 hown hK hP 0 rfl rfl 2 (by decide) (hwd _ kr12_17) (fun _ h9 => h9) rfl dX1_below_1 ?_
  refine lv_iload_n hx hb dX1_below_4 rfl (lv_at hl 1 rfl) ?_
  have h1 : vp_in p0 10 := (vp_of (by omega) (by omega))
  refine va_iald hx hb hK hP 1 0 rfl rfl h1 dX1_below_5 ?_
  refine lv_topi (fun x2 ex2 => ?_)
  refine lv_if_lt (tgt := 19) hx hb dX1_below_6 (by decide) (fun c3 => ?_) (fun c3 => ?_)
  · rw [ki_lt] at c3
    refine lv_iconst (v := 0) hx hb dX1_below_19 (by decide) ?_
    refine lv_goto (tgt := 29) hx hb dX1_below_20 (by decide) ?_
    have hP9 := hP.sub (ws' := [(a0, .inr (1, [.int i0, .ref a1, .ref a2, .ref a3, .ref a4, .ref a5, .ref a6, .ref a7, .ref a8, .ref a9])), (a2, .inl (cI, 10, .inl xF1))]) [0, 1] rfl
    have hD9 := hD.sub (ws' := [(a0, .inr (1, [.int i0, .ref a1, .ref a2, .ref a3, .ref a4, .ref a5, .ref a6, .ref a7, .ref a8, .ref a9])), (a2, .inl (cI, 10, .inl xF1))]) [0, 1] (by decide) rfl
    rw [hQ]
    exact W.iret (v := 0) hx hb hr (fun t ht hW => ⟨⟨0, (), rfl, ⟨(show (0 : Int) ≤ (0 : Int32).toInt ∧ (0 : Int32).toInt ≤ 8 from ⟨by omega, by omega⟩), trivial⟩, (by rw [ht]; exact hP9), hD9⟩, hS.F ht⟩) hS.2.2 dX1_below_29
  · rw [ki_lt] at c3
    refine lv_aload_n hx hb dX1_below_9 rfl (lv_at hl 0 rfl) ?_
    refine va_get (D := (dC, dI)) (ci := 1) (v := .ref a2) (C := RX1) (T := TX1) (N := 10) hx hb hwd inlX1 hown hK hP 0 rfl rfl 2 (by decide) (hwd _ kr12_17) (fun _ h9 => h9) rfl dX1_below_10 ?_
    refine lv_iload_n hx hb dX1_below_13 rfl (lv_at hl 1 rfl) ?_
    have h4 : vp_in p0 10 := (vp_of (by omega) (by omega))
    refine va_iald hx hb hK hP 1 0 rfl rfl h4 dX1_below_14 ?_
    refine lv_topi (nm_r (e' := x2) ex2.symm ?_)
    refine lv_iload_n hx hb dX1_below_15 rfl (lv_at hl 1 rfl) ?_
    refine lv_icmp_lt (tgt := 23) hx hb dX1_below_16 (by decide) (fun c5 => ?_) (fun c5 => ?_)
    · rw [ki_lt] at c5
      refine lv_aload_n hx hb dX1_below_23 rfl (lv_at hl 0 rfl) ?_
      refine va_get (D := (dC, dI)) (ci := 1) (v := .ref a2) (C := RX1) (T := TX1) (N := 10) hx hb hwd inlX1 hown hK hP 0 rfl rfl 2 (by decide) (hwd _ kr12_17) (fun _ h9 => h9) rfl dX1_below_24 ?_
      refine lv_iload_n hx hb dX1_below_27 rfl (lv_at hl 1 rfl) ?_
      have h6 : vp_in p0 10 := (vp_of (by omega) (by omega))
      refine va_iald hx hb hK hP 1 0 rfl rfl h6 dX1_below_28 ?_
      refine lv_topi (nm_r (e' := x2) ex2.symm ?_)
      have hP9 := hP.sub (ws' := [(a0, .inr (1, [.int i0, .ref a1, .ref a2, .ref a3, .ref a4, .ref a5, .ref a6, .ref a7, .ref a8, .ref a9])), (a2, .inl (cI, 10, .inl xF1))]) [0, 1] rfl
      have hD9 := hD.sub (ws' := [(a0, .inr (1, [.int i0, .ref a1, .ref a2, .ref a3, .ref a4, .ref a5, .ref a6, .ref a7, .ref a8, .ref a9])), (a2, .inl (cI, 10, .inl xF1))]) [0, 1] (by decide) rfl
      rw [hQ]
      exact W.iret (v := x2) hx hb hr (fun t ht hW => ⟨⟨x2, (), rfl, ⟨(show (0 : Int) ≤ x2.toInt ∧ x2.toInt ≤ 8 from ⟨by omega, by omega⟩), trivial⟩, (by rw [ht]; exact hP9), hD9⟩, hS.F ht⟩) hS.2.2 dX1_below_29
    · rw [ki_lt] at c5
      refine lv_iconst (v := 0) hx hb dX1_below_19 (by decide) ?_
      refine lv_goto (tgt := 29) hx hb dX1_below_20 (by decide) ?_
      have hP9 := hP.sub (ws' := [(a0, .inr (1, [.int i0, .ref a1, .ref a2, .ref a3, .ref a4, .ref a5, .ref a6, .ref a7, .ref a8, .ref a9])), (a2, .inl (cI, 10, .inl xF1))]) [0, 1] rfl
      have hD9 := hD.sub (ws' := [(a0, .inr (1, [.int i0, .ref a1, .ref a2, .ref a3, .ref a4, .ref a5, .ref a6, .ref a7, .ref a8, .ref a9])), (a2, .inl (cI, 10, .inl xF1))]) [0, 1] (by decide) rfl
      rw [hQ]
      exact W.iret (v := 0) hx hb hr (fun t ht hW => ⟨⟨0, (), rfl, ⟨(show (0 : Int) ≤ (0 : Int32).toInt ∧ (0 : Int32).toInt ≤ 8 from ⟨by omega, by omega⟩), trivial⟩, (by rw [ht]; exact hP9), hD9⟩, hS.F ht⟩) hS.2.2 dX1_below_29
theorem dX1_rootOf_0 : decode cX1_rootOf 0 = .ok (.iload_n 1, 1) := by decide +kernel
theorem dX1_rootOf_1 : decode cX1_rootOf 1 = .ok (.istore_n 2, 1) := by decide +kernel
theorem dX1_rootOf_2 : decode cX1_rootOf 2 = .ok (.iconst 0, 1) := by decide +kernel
theorem dX1_rootOf_3 : decode cX1_rootOf 3 = .ok (.istore_n 3, 1) := by decide +kernel
theorem dX1_rootOf_4 : decode cX1_rootOf 4 = .ok (.iload_n 3, 1) := by decide +kernel
theorem dX1_rootOf_5 : decode cX1_rootOf 5 = .ok (.bipush 10, 2) := by decide +kernel
theorem dX1_rootOf_7 : decode cX1_rootOf 7 = .ok (.if_icmp .ge 25, 3) := by decide +kernel
theorem dX1_rootOf_10 : decode cX1_rootOf 10 = .ok (.aload_n 0, 1) := by decide +kernel
theorem dX1_rootOf_11 : decode cX1_rootOf 11 = .ok (.getfield 9, 3) := by decide +kernel
theorem dX1_rootOf_14 : decode cX1_rootOf 14 = .ok (.iload_n 2, 1) := by decide +kernel
theorem dX1_rootOf_15 : decode cX1_rootOf 15 = .ok (.iaload, 1) := by decide +kernel
theorem dX1_rootOf_16 : decode cX1_rootOf 16 = .ok (.iconst 3, 1) := by decide +kernel
theorem dX1_rootOf_17 : decode cX1_rootOf 17 = .ok (.if_icmp .ne 15, 3) := by decide +kernel
theorem dX1_rootOf_20 : decode cX1_rootOf 20 = .ok (.aload_n 0, 1) := by decide +kernel
theorem dX1_rootOf_21 : decode cX1_rootOf 21 = .ok (.iload_n 2, 1) := by decide +kernel
theorem dX1_rootOf_22 : decode cX1_rootOf 22 = .ok (.invokevirtual 95, 3) := by decide +kernel
theorem dX1_rootOf_25 : decode cX1_rootOf 25 = .ok (.istore_n 2, 1) := by decide +kernel
theorem dX1_rootOf_26 : decode cX1_rootOf 26 = .ok (.iinc 3 1, 3) := by decide +kernel
theorem dX1_rootOf_29 : decode cX1_rootOf 29 = .ok (.goto (-25), 3) := by decide +kernel
theorem dX1_rootOf_32 : decode cX1_rootOf 32 = .ok (.iload_n 2, 1) := by decide +kernel
theorem dX1_rootOf_33 : decode cX1_rootOf 33 = .ok (.ireturn, 1) := by decide +kernel
set_option maxHeartbeats 4000000 in
set_option maxRecDepth 100000 in
theorem s_X1_rootOf (l : Launch) (dC : Nat → ClassId) (dI : Nat → Nat → Nat) (cI cZ cB cJ cM cG : ClassId) (a0 a1 a2 a3 a4 a5 a6 a7 a8 a9 : Nat) (i0 : Int32) (xF0 xF1 : Nat → Int32) (p0 : Int32) (sz : Nat) (p_0 : (0 : Int) ≤ i0.toInt ∧ i0.toInt ≤ 10) (p_1 : (0 : Int) ≤ p0.toInt ∧ p0.toInt ≤ 9) : Met l yX1_rootOf (kw yX1_rootOf cX1_rootOf 4 (some .int)) ({ frames := 1, cells := 0, slots := 0, locals := 21 } : Room) (va_Pc [.ref a0, .int p0] (kPre dC dI [(cI, .int), (cZ, .boolean), (cB, .byte), (cJ, .long), (cM, .object RX2), (cG, .array .int)] [(a0, .inr (1, [.int i0, .ref a1, .ref a2, .ref a3, .ref a4, .ref a5, .ref a6, .ref a7, .ref a8, .ref a9])), (a1, .inl (cI, 10, .inl xF0)), (a2, .inl (cI, 10, .inl xF1))] sz)) (va_Qi (fun (r : Int32) (u9 : Unit) => ((0 : Int) ≤ r.toInt ∧ r.toInt ≤ 9) ∧ True) (fun u9 t => va_P (dC, dI) vwCl [(a0, .inr (1, [.int i0, .ref a1, .ref a2, .ref a3, .ref a4, .ref a5, .ref a6, .ref a7, .ref a8, .ref a9])), (a1, .inl (cI, 10, .inl xF0)), (a2, .inl (cI, 10, .inl xF1))] t.heap ∧ va_D (va_A [(a0, .inr (1, [.int i0, .ref a1, .ref a2, .ref a3, .ref a4, .ref a5, .ref a6, .ref a7, .ref a8, .ref a9])), (a1, .inl (cI, 10, .inl xF0)), (a2, .inl (cI, 10, .inl xF1))] sz) [(a0, .inr (1, [.int i0, .ref a1, .ref a2, .ref a3, .ref a4, .ref a5, .ref a6, .ref a7, .ref a8, .ref a9])), (a1, .inl (cI, 10, .inl xF0)), (a2, .inl (cI, 10, .inl xF1))]) (va_A [(a0, .inr (1, [.int i0, .ref a1, .ref a2, .ref a3, .ref a4, .ref a5, .ref a6, .ref a7, .ref a8, .ref a9])), (a1, .inl (cI, 10, .inl xF0)), (a2, .inl (cI, 10, .inl xF1))] sz)) 0 0 (va_A [(a0, .inr (1, [.int i0, .ref a1, .ref a2, .ref a3, .ref a4, .ref a5, .ref a6, .ref a7, .ref a8, .ref a9])), (a1, .inl (cI, 10, .inl xF0)), (a2, .inl (cI, 10, .inl xF1))] sz) := by
  refine kEnter (by decide) (Nat.le_of_ble_eq_true rfl) ?_
  intro p e s m below meth c ls hx hb hr hml hown hlocks hin hwd hsz hP hK hD hl
  subst hsz
  generalize hAe : va_A [(a0, .inr (1, [.int i0, .ref a1, .ref a2, .ref a3, .ref a4, .ref a5, .ref a6, .ref a7, .ref a8, .ref a9])), (a1, .inl (cI, 10, .inl xF0)), (a2, .inl (cI, 10, .inl xF1))] s.heap.size = A at hD ⊢
  have hA : ∀ q : Nat, s.heap.size ≤ q → A q := fun q h => by rw [← hAe]; exact Or.inr h
  have hS : va_S A s.heap s.heap [] := va_S.rf
  have hl : lv_has ls 4 [(0, .ref a0), (1, .int p0)] := hl
  obtain ⟨Q, hQ⟩ : ∃ Q, Q = MQ below (va_Qi (fun (r : Int32) (u9 : Unit) => ((0 : Int) ≤ r.toInt ∧ r.toInt ≤ 9) ∧ True) (fun u9 t => va_P (dC, dI) vwCl [(a0, .inr (1, [.int i0, .ref a1, .ref a2, .ref a3, .ref a4, .ref a5, .ref a6, .ref a7, .ref a8, .ref a9])), (a1, .inl (cI, 10, .inl xF0)), (a2, .inl (cI, 10, .inl xF1))] t.heap ∧ va_D A [(a0, .inr (1, [.int i0, .ref a1, .ref a2, .ref a3, .ref a4, .ref a5, .ref a6, .ref a7, .ref a8, .ref a9])), (a1, .inl (cI, 10, .inl xF0)), (a2, .inl (cI, 10, .inl xF1))]) A) ([.ref a0, .int p0] : List Value).toArray s 0 0 A := ⟨_, rfl⟩
  rw [← hQ]
  have k0 : (0 : Int32).toInt = 0 := by decide
  have k1 : (1 : Int32).toInt = 1 := by decide
  have k3 : (3 : Int32).toInt = 3 := by decide
  have k10 : (10 : Int32).toInt = 10 := by decide
  refine lv_iload_n hx hb dX1_rootOf_0 rfl (lv_at hl 1 rfl) ?_
  refine lv_istore_n (lv' := [(2, .int p0), (0, .ref a0), (1, .int p0)]) hx hb dX1_rootOf_1 rfl hl (by decide) rfl (fun ls hl => ?_)
  refine lv_iconst (v := 0) hx hb dX1_rootOf_2 (by decide) ?_
  refine lv_istore_n (lv' := [(3, .int 0), (2, .int p0), (0, .ref a0), (1, .int p0)]) hx hb dX1_rootOf_3 rfl hl (by decide) rfl (fun ls hl => ?_)
  have lp1 : ∀ (d : Nat), ∀ (H : Heap) (locs : List Loc) (ls : Array Slot) (w2_1 : Int32) (w3_1 : Int32), ((0 : Int) ≤ w2_1.toInt ∧ w2_1.toInt ≤ 9) → ((0 : Int) ≤ w3_1.toInt ∧ w3_1.toInt ≤ 10) → (10 - w3_1.toInt).toNat < d → va_P (dC, dI) vwCl [(a0, .inr (1, [.int i0, .ref a1, .ref a2, .ref a3, .ref a4, .ref a5, .ref a6, .ref a7, .ref a8, .ref a9])), (a1, .inl (cI, 10, .inl xF0)), (a2, .inl (cI, 10, .inl xF1))] H → va_D A [(a0, .inr (1, [.int i0, .ref a1, .ref a2, .ref a3, .ref a4, .ref a5, .ref a6, .ref a7, .ref a8, .ref a9])), (a1, .inl (cI, 10, .inl xF0)), (a2, .inl (cI, 10, .inl xF1))] → va_S A s.heap H locs → lv_has ls 4 [(0, .ref a0), (1, .int p0), (2, .int w2_1), (3, .int w3_1)] → W p l e ({ frames := 1, cells := 0, slots := 0, locals := 21 } : Room) s m ([.ref a0, .int p0] : List Value).toArray below meth c H locs 0 0 Q (F0 m 4 ls []) := by
    intro d
    induction d with
    | zero =>
      intro H locs ls w2_1 w3_1 hr_w2_1 hr_w3_1 hm hP hD hS hl
      omega
    | succ d ih1 =>
      intro H locs ls w2_1 w3_1 hr_w2_1 hr_w3_1 hm hP hD hS hl
      refine lv_iload_n hx hb dX1_rootOf_4 rfl (lv_at hl 3 rfl) ?_
      refine lv_bipush (v := 10) hx hb dX1_rootOf_5 (by decide) ?_
      refine lv_icmp_ge (tgt := 32) hx hb dX1_rootOf_7 (by decide) (fun c40 => ?_) (fun c40 => ?_)
      · rw [ki_le] at c40
        refine lv_iload_n hx hb dX1_rootOf_32 rfl (lv_at hl 2 rfl) ?_
        have hP9 := hP.sub (ws' := [(a0, .inr (1, [.int i0, .ref a1, .ref a2, .ref a3, .ref a4, .ref a5, .ref a6, .ref a7, .ref a8, .ref a9])), (a1, .inl (cI, 10, .inl xF0)), (a2, .inl (cI, 10, .inl xF1))]) [0, 1, 2] rfl
        have hD9 := hD.sub (ws' := [(a0, .inr (1, [.int i0, .ref a1, .ref a2, .ref a3, .ref a4, .ref a5, .ref a6, .ref a7, .ref a8, .ref a9])), (a1, .inl (cI, 10, .inl xF0)), (a2, .inl (cI, 10, .inl xF1))]) [0, 1, 2] (by decide) rfl
        rw [hQ]
        exact W.iret (v := w2_1) hx hb hr (fun t ht hW => ⟨⟨w2_1, (), rfl, ⟨(show (0 : Int) ≤ w2_1.toInt ∧ w2_1.toInt ≤ 9 from ⟨by omega, by omega⟩), trivial⟩, (by rw [ht]; exact hP9), hD9⟩, hS.F ht⟩) hS.2.2 dX1_rootOf_33
      · rw [ki_le] at c40
        refine lv_aload_n hx hb dX1_rootOf_10 rfl (lv_at hl 0 rfl) ?_
        refine va_get (D := (dC, dI)) (ci := 1) (v := .ref a1) (C := RX1) (T := TX1) (N := 10) hx hb hwd inlX1 hown hK hP 0 rfl rfl 1 (by decide) (hwd _ kr12_14) (fun _ h9 => h9) rfl dX1_rootOf_11 ?_
        refine lv_iload_n hx hb dX1_rootOf_14 rfl (lv_at hl 2 rfl) ?_
        have h41 : vp_in w2_1 10 := (vp_of (by omega) (by omega))
        refine va_iald hx hb hK hP 1 0 rfl rfl h41 dX1_rootOf_15 ?_
        refine lv_topi (fun x42 ex42 => ?_)
        refine lv_iconst (v := 3) hx hb dX1_rootOf_16 (by decide) ?_
        refine lv_icmp_ne (tgt := 32) hx hb dX1_rootOf_17 (by decide) (fun c43 => ?_) (fun c43 => ?_)
        · rw [ki_eq] at c43
          refine lv_iload_n hx hb dX1_rootOf_32 rfl (lv_at hl 2 rfl) ?_
          have hP9 := hP.sub (ws' := [(a0, .inr (1, [.int i0, .ref a1, .ref a2, .ref a3, .ref a4, .ref a5, .ref a6, .ref a7, .ref a8, .ref a9])), (a1, .inl (cI, 10, .inl xF0)), (a2, .inl (cI, 10, .inl xF1))]) [0, 1, 2] rfl
          have hD9 := hD.sub (ws' := [(a0, .inr (1, [.int i0, .ref a1, .ref a2, .ref a3, .ref a4, .ref a5, .ref a6, .ref a7, .ref a8, .ref a9])), (a1, .inl (cI, 10, .inl xF0)), (a2, .inl (cI, 10, .inl xF1))]) [0, 1, 2] (by decide) rfl
          rw [hQ]
          exact W.iret (v := w2_1) hx hb hr (fun t ht hW => ⟨⟨w2_1, (), rfl, ⟨(show (0 : Int) ≤ w2_1.toInt ∧ w2_1.toInt ≤ 9 from ⟨by omega, by omega⟩), trivial⟩, (by rw [ht]; exact hP9), hD9⟩, hS.F ht⟩) hS.2.2 dX1_rootOf_33
        · rw [ki_eq] at c43
          refine lv_aload_n hx hb dX1_rootOf_20 rfl (lv_at hl 0 rfl) ?_
          refine lv_iload_n hx hb dX1_rootOf_21 rfl (lv_at hl 2 rfl) ?_
          have hPc := hP.sub (ws' := [(a0, .inr (1, [.int i0, .ref a1, .ref a2, .ref a3, .ref a4, .ref a5, .ref a6, .ref a7, .ref a8, .ref a9])), (a2, .inl (cI, 10, .inl xF1))]) [0, 2] rfl
          have hDc := hD.sub (ws' := [(a0, .inr (1, [.int i0, .ref a1, .ref a2, .ref a3, .ref a4, .ref a5, .ref a6, .ref a7, .ref a8, .ref a9])), (a2, .inl (cI, 10, .inl xF1))]) [0, 2] (by decide) rfl
          have hFc := va_free (wc := [(a0, .inr (1, [.int i0, .ref a1, .ref a2, .ref a3, .ref a4, .ref a5, .ref a6, .ref a7, .ref a8, .ref a9])), (a2, .inl (cI, 10, .inl xF1))]) hD hS hA [0, 2] rfl
          refine va_calli (va_runV (As := [.int w2_1]) (rest := []) ⟨hx, hb, hml, hown, hwd⟩ (s_X1_below l dC dI cI cZ cB cJ cM cG a0 a1 a2 a3 a4 a5 a6 a7 a8 a9 i0 xF1 w2_1 H.size (show (0 : Int) ≤ i0.toInt ∧ i0.toInt ≤ 10 from p_0) (show (0 : Int) ≤ w2_1.toInt ∧ w2_1.toInt ≤ 9 from ⟨by omega, by omega⟩)) (cwV 1 hwd (gV kr25_7 kr25_8 kr1_10 kr5_20 kr25_9) rfl rfl rfl (by decide +kernel) ⟨Nat.le_of_ble_eq_true rfl, Nat.le_of_ble_eq_true rfl⟩) (kPreV hPc hK hDc (ci := 1) (q0 := 0) rfl rfl) rfl rfl hl.1 rfl (lv_room (Nat.le_of_ble_eq_true rfl)) dX1_rootOf_22 ⟨Nat.le_of_ble_eq_true rfl, Nat.le_of_ble_eq_true rfl⟩) hS (fun q _ h => hFc q h) hFc (fun r44 u45 t H1 locs ht9 hvm hw hB hz1 hk1 hS => ?_)
          obtain ⟨hw46, -⟩ := hw
          replace hw46 : (0 : Int) ≤ r44.toInt ∧ r44.toInt ≤ 8 := hw46
          obtain ⟨hP1, hD1⟩ := hB
          rw [ht9] at hP1
          obtain ⟨hP, hD⟩ := va_join (wr := [(a1, .inl (cI, 10, .inl xF0))]) (w1 := [(a0, .inr (1, [.int i0, .ref a1, .ref a2, .ref a3, .ref a4, .ref a5, .ref a6, .ref a7, .ref a8, .ref a9])), (a2, .inl (cI, 10, .inl xF1))]) hP hD [0, 2] [1] rfl rfl (by decide) (by decide) hk1 hFc hP1 hD1
          generalize H1 = H at hP hS ⊢
          replace hP : va_P (dC, dI) vwCl [(a1, .inl (cI, 10, .inl xF0)), (a0, .inr (1, [.int i0, .ref a1, .ref a2, .ref a3, .ref a4, .ref a5, .ref a6, .ref a7, .ref a8, .ref a9])), (a2, .inl (cI, 10, .inl xF1))] H := hP
          replace hD : va_D A [(a1, .inl (cI, 10, .inl xF0)), (a0, .inr (1, [.int i0, .ref a1, .ref a2, .ref a3, .ref a4, .ref a5, .ref a6, .ref a7, .ref a8, .ref a9])), (a2, .inl (cI, 10, .inl xF1))] := hD
          refine lv_istore_n (lv' := [(2, .int r44), (0, .ref a0), (1, .int p0), (3, .int w3_1)]) hx hb dX1_rootOf_25 rfl hl (by decide) rfl (fun ls hl => ?_)
          obtain ⟨x47, ex47⟩ : ∃ y : Int32, y = w3_1 + 1 := ⟨_, rfl⟩
          refine lv_iinc (v := x47) (lv' := [(3, .int x47), (2, .int r44), (0, .ref a0), (1, .int p0)]) hx hb dX1_rootOf_26 hl (k := 3) rfl (by rw [ex47]; rfl) (by decide) rfl (fun ls hl => ?_)
          have tx47 := ia_add (a := w3_1) (b := (1 : Int32)) (by omega) (by omega)
          rw [← ex47] at tx47
          refine lv_goto (tgt := 4) hx hb dX1_rootOf_29 (by decide) ?_
          exact ih1 _ _ ls r44 x47 (show (0 : Int) ≤ r44.toInt ∧ r44.toInt ≤ 9 from ⟨by omega, by omega⟩) (show (0 : Int) ≤ x47.toInt ∧ x47.toInt ≤ 10 from ⟨by omega, by omega⟩) (by omega) (hP.sub (ws' := [(a0, .inr (1, [.int i0, .ref a1, .ref a2, .ref a3, .ref a4, .ref a5, .ref a6, .ref a7, .ref a8, .ref a9])), (a1, .inl (cI, 10, .inl xF0)), (a2, .inl (cI, 10, .inl xF1))]) [1, 0, 2] rfl) (hD.sub (ws' := [(a0, .inr (1, [.int i0, .ref a1, .ref a2, .ref a3, .ref a4, .ref a5, .ref a6, .ref a7, .ref a8, .ref a9])), (a1, .inl (cI, 10, .inl xF0)), (a2, .inl (cI, 10, .inl xF1))]) [1, 0, 2] (by decide) rfl) hS (lv_sub hl [2, 3, 1, 0] rfl)
  exact lp1 _ _ _ ls p0 (0) (show (0 : Int) ≤ p0.toInt ∧ p0.toInt ≤ 9 from p_1) (show (0 : Int) ≤ (0 : Int32).toInt ∧ (0 : Int32).toInt ≤ 10 from ⟨by omega, by omega⟩) (Nat.lt_succ_self _) (hP.sub (ws' := [(a0, .inr (1, [.int i0, .ref a1, .ref a2, .ref a3, .ref a4, .ref a5, .ref a6, .ref a7, .ref a8, .ref a9])), (a1, .inl (cI, 10, .inl xF0)), (a2, .inl (cI, 10, .inl xF1))]) [0, 1, 2] rfl) (hD.sub (ws' := [(a0, .inr (1, [.int i0, .ref a1, .ref a2, .ref a3, .ref a4, .ref a5, .ref a6, .ref a7, .ref a8, .ref a9])), (a1, .inl (cI, 10, .inl xF0)), (a2, .inl (cI, 10, .inl xF1))]) [0, 1, 2] (by decide) rfl) hS (lv_sub hl [2, 3, 1, 0] rfl)
theorem dX1_leversOf_0 : decode cX1_leversOf 0 = .ok (.iconst 0, 1) := by decide +kernel
theorem dX1_leversOf_1 : decode cX1_leversOf 1 = .ok (.istore_n 2, 1) := by decide +kernel
theorem dX1_leversOf_2 : decode cX1_leversOf 2 = .ok (.iload_n 1, 1) := by decide +kernel
theorem dX1_leversOf_3 : decode cX1_leversOf 3 = .ok (.istore_n 3, 1) := by decide +kernel
theorem dX1_leversOf_4 : decode cX1_leversOf 4 = .ok (.iconst 0, 1) := by decide +kernel
theorem dX1_leversOf_5 : decode cX1_leversOf 5 = .ok (.istore 4, 2) := by decide +kernel
theorem dX1_leversOf_7 : decode cX1_leversOf 7 = .ok (.iload 4, 2) := by decide +kernel
theorem dX1_leversOf_9 : decode cX1_leversOf 9 = .ok (.bipush 10, 2) := by decide +kernel
theorem dX1_leversOf_11 : decode cX1_leversOf 11 = .ok (.if_icmp .ge 31, 3) := by decide +kernel
theorem dX1_leversOf_14 : decode cX1_leversOf 14 = .ok (.aload_n 0, 1) := by decide +kernel
theorem dX1_leversOf_15 : decode cX1_leversOf 15 = .ok (.getfield 9, 3) := by decide +kernel
theorem dX1_leversOf_18 : decode cX1_leversOf 18 = .ok (.iload_n 3, 1) := by decide +kernel
theorem dX1_leversOf_19 : decode cX1_leversOf 19 = .ok (.iaload, 1) := by decide +kernel
theorem dX1_leversOf_20 : decode cX1_leversOf 20 = .ok (.iconst 3, 1) := by decide +kernel
theorem dX1_leversOf_21 : decode cX1_leversOf 21 = .ok (.if_icmp .ne 21, 3) := by decide +kernel
theorem dX1_leversOf_24 : decode cX1_leversOf 24 = .ok (.iload_n 2, 1) := by decide +kernel
theorem dX1_leversOf_25 : decode cX1_leversOf 25 = .ok (.iconst 1, 1) := by decide +kernel
theorem dX1_leversOf_26 : decode cX1_leversOf 26 = .ok (.iload_n 3, 1) := by decide +kernel
theorem dX1_leversOf_27 : decode cX1_leversOf 27 = .ok (.ishl, 1) := by decide +kernel
theorem dX1_leversOf_28 : decode cX1_leversOf 28 = .ok (.ior, 1) := by decide +kernel
theorem dX1_leversOf_29 : decode cX1_leversOf 29 = .ok (.istore_n 2, 1) := by decide +kernel
theorem dX1_leversOf_30 : decode cX1_leversOf 30 = .ok (.aload_n 0, 1) := by decide +kernel
theorem dX1_leversOf_31 : decode cX1_leversOf 31 = .ok (.iload_n 3, 1) := by decide +kernel
theorem dX1_leversOf_32 : decode cX1_leversOf 32 = .ok (.invokevirtual 95, 3) := by decide +kernel
theorem dX1_leversOf_35 : decode cX1_leversOf 35 = .ok (.istore_n 3, 1) := by decide +kernel
theorem dX1_leversOf_36 : decode cX1_leversOf 36 = .ok (.iinc 4 1, 3) := by decide +kernel
theorem dX1_leversOf_39 : decode cX1_leversOf 39 = .ok (.goto (-32), 3) := by decide +kernel
theorem dX1_leversOf_42 : decode cX1_leversOf 42 = .ok (.iload_n 2, 1) := by decide +kernel
theorem dX1_leversOf_43 : decode cX1_leversOf 43 = .ok (.ireturn, 1) := by decide +kernel
set_option maxHeartbeats 4000000 in
set_option maxRecDepth 100000 in
theorem s_X1_leversOf (l : Launch) (dC : Nat → ClassId) (dI : Nat → Nat → Nat) (cI cZ cB cJ cM cG : ClassId) (a0 a1 a2 a3 a4 a5 a6 a7 a8 a9 : Nat) (i0 : Int32) (xF0 xF1 : Nat → Int32) (p0 : Int32) (sz : Nat) (p_0 : (0 : Int) ≤ i0.toInt ∧ i0.toInt ≤ 10) (p_1 : (0 : Int) ≤ p0.toInt ∧ p0.toInt ≤ 9) : Met l yX1_leversOf (kw yX1_leversOf cX1_leversOf 5 (some .int)) ({ frames := 1, cells := 0, slots := 0, locals := 21 } : Room) (va_Pc [.ref a0, .int p0] (kPre dC dI [(cI, .int), (cZ, .boolean), (cB, .byte), (cJ, .long), (cM, .object RX2), (cG, .array .int)] [(a0, .inr (1, [.int i0, .ref a1, .ref a2, .ref a3, .ref a4, .ref a5, .ref a6, .ref a7, .ref a8, .ref a9])), (a1, .inl (cI, 10, .inl xF0)), (a2, .inl (cI, 10, .inl xF1))] sz)) (va_Qi (fun (r : Int32) (u9 : Unit) => True) (fun u9 t => va_P (dC, dI) vwCl [(a0, .inr (1, [.int i0, .ref a1, .ref a2, .ref a3, .ref a4, .ref a5, .ref a6, .ref a7, .ref a8, .ref a9])), (a1, .inl (cI, 10, .inl xF0)), (a2, .inl (cI, 10, .inl xF1))] t.heap ∧ va_D (va_A [(a0, .inr (1, [.int i0, .ref a1, .ref a2, .ref a3, .ref a4, .ref a5, .ref a6, .ref a7, .ref a8, .ref a9])), (a1, .inl (cI, 10, .inl xF0)), (a2, .inl (cI, 10, .inl xF1))] sz) [(a0, .inr (1, [.int i0, .ref a1, .ref a2, .ref a3, .ref a4, .ref a5, .ref a6, .ref a7, .ref a8, .ref a9])), (a1, .inl (cI, 10, .inl xF0)), (a2, .inl (cI, 10, .inl xF1))]) (va_A [(a0, .inr (1, [.int i0, .ref a1, .ref a2, .ref a3, .ref a4, .ref a5, .ref a6, .ref a7, .ref a8, .ref a9])), (a1, .inl (cI, 10, .inl xF0)), (a2, .inl (cI, 10, .inl xF1))] sz)) 0 0 (va_A [(a0, .inr (1, [.int i0, .ref a1, .ref a2, .ref a3, .ref a4, .ref a5, .ref a6, .ref a7, .ref a8, .ref a9])), (a1, .inl (cI, 10, .inl xF0)), (a2, .inl (cI, 10, .inl xF1))] sz) := by
  refine kEnter (by decide) (Nat.le_of_ble_eq_true rfl) ?_
  intro p e s m below meth c ls hx hb hr hml hown hlocks hin hwd hsz hP hK hD hl
  subst hsz
  generalize hAe : va_A [(a0, .inr (1, [.int i0, .ref a1, .ref a2, .ref a3, .ref a4, .ref a5, .ref a6, .ref a7, .ref a8, .ref a9])), (a1, .inl (cI, 10, .inl xF0)), (a2, .inl (cI, 10, .inl xF1))] s.heap.size = A at hD ⊢
  have hA : ∀ q : Nat, s.heap.size ≤ q → A q := fun q h => by rw [← hAe]; exact Or.inr h
  have hS : va_S A s.heap s.heap [] := va_S.rf
  have hl : lv_has ls 5 [(0, .ref a0), (1, .int p0)] := hl
  obtain ⟨Q, hQ⟩ : ∃ Q, Q = MQ below (va_Qi (fun (r : Int32) (u9 : Unit) => True) (fun u9 t => va_P (dC, dI) vwCl [(a0, .inr (1, [.int i0, .ref a1, .ref a2, .ref a3, .ref a4, .ref a5, .ref a6, .ref a7, .ref a8, .ref a9])), (a1, .inl (cI, 10, .inl xF0)), (a2, .inl (cI, 10, .inl xF1))] t.heap ∧ va_D A [(a0, .inr (1, [.int i0, .ref a1, .ref a2, .ref a3, .ref a4, .ref a5, .ref a6, .ref a7, .ref a8, .ref a9])), (a1, .inl (cI, 10, .inl xF0)), (a2, .inl (cI, 10, .inl xF1))]) A) ([.ref a0, .int p0] : List Value).toArray s 0 0 A := ⟨_, rfl⟩
  rw [← hQ]
  have k0 : (0 : Int32).toInt = 0 := by decide
  have k1 : (1 : Int32).toInt = 1 := by decide
  have k3 : (3 : Int32).toInt = 3 := by decide
  have k10 : (10 : Int32).toInt = 10 := by decide
  refine lv_iconst (v := 0) hx hb dX1_leversOf_0 (by decide) ?_
  refine lv_istore_n (lv' := [(2, .int 0), (0, .ref a0), (1, .int p0)]) hx hb dX1_leversOf_1 rfl hl (by decide) rfl (fun ls hl => ?_)
  refine lv_iload_n hx hb dX1_leversOf_2 rfl (lv_at hl 2 rfl) ?_
  refine lv_istore_n (lv' := [(3, .int p0), (2, .int 0), (0, .ref a0), (1, .int p0)]) hx hb dX1_leversOf_3 rfl hl (by decide) rfl (fun ls hl => ?_)
  refine lv_iconst (v := 0) hx hb dX1_leversOf_4 (by decide) ?_
  refine lv_istore (lv' := [(4, .int 0), (3, .int p0), (2, .int 0), (0, .ref a0), (1, .int p0)]) hx hb dX1_leversOf_5 hl (by decide) rfl (fun ls hl => ?_)
  have lp1 : ∀ (d : Nat), ∀ (H : Heap) (locs : List Loc) (ls : Array Slot) (w2_1 : Int32) (w3_1 : Int32) (w4_1 : Int32), ((0 : Int) ≤ w3_1.toInt ∧ w3_1.toInt ≤ 9) → ((0 : Int) ≤ w4_1.toInt ∧ w4_1.toInt ≤ 10) → (10 - w4_1.toInt).toNat < d → va_P (dC, dI) vwCl [(a0, .inr (1, [.int i0, .ref a1, .ref a2, .ref a3, .ref a4, .ref a5, .ref a6, .ref a7, .ref a8, .ref a9])), (a1, .inl (cI, 10, .inl xF0)), (a2, .inl (cI, 10, .inl xF1))] H → va_D A [(a0, .inr (1, [.int i0, .ref a1, .ref a2, .ref a3, .ref a4, .ref a5, .ref a6, .ref a7, .ref a8, .ref a9])), (a1, .inl (cI, 10, .inl xF0)), (a2, .inl (cI, 10, .inl xF1))] → va_S A s.heap H locs → lv_has ls 5 [(0, .ref a0), (1, .int p0), (2, .int w2_1), (3, .int w3_1), (4, .int w4_1)] → W p l e ({ frames := 1, cells := 0, slots := 0, locals := 21 } : Room) s m ([.ref a0, .int p0] : List Value).toArray below meth c H locs 0 0 Q (F0 m 7 ls []) := by
    intro d
    induction d with
    | zero =>
      intro H locs ls w2_1 w3_1 w4_1 hr_w3_1 hr_w4_1 hm hP hD hS hl
      omega
    | succ d ih1 =>
      intro H locs ls w2_1 w3_1 w4_1 hr_w3_1 hr_w4_1 hm hP hD hS hl
      refine lv_iload hx hb dX1_leversOf_7 (lv_at hl 4 rfl) ?_
      refine lv_bipush (v := 10) hx hb dX1_leversOf_9 (by decide) ?_
      refine lv_icmp_ge (tgt := 42) hx hb dX1_leversOf_11 (by decide) (fun c50 => ?_) (fun c50 => ?_)
      · rw [ki_le] at c50
        refine lv_iload_n hx hb dX1_leversOf_42 rfl (lv_at hl 2 rfl) ?_
        have hP9 := hP.sub (ws' := [(a0, .inr (1, [.int i0, .ref a1, .ref a2, .ref a3, .ref a4, .ref a5, .ref a6, .ref a7, .ref a8, .ref a9])), (a1, .inl (cI, 10, .inl xF0)), (a2, .inl (cI, 10, .inl xF1))]) [0, 1, 2] rfl
        have hD9 := hD.sub (ws' := [(a0, .inr (1, [.int i0, .ref a1, .ref a2, .ref a3, .ref a4, .ref a5, .ref a6, .ref a7, .ref a8, .ref a9])), (a1, .inl (cI, 10, .inl xF0)), (a2, .inl (cI, 10, .inl xF1))]) [0, 1, 2] (by decide) rfl
        rw [hQ]
        exact W.iret (v := w2_1) hx hb hr (fun t ht hW => ⟨⟨w2_1, (), rfl, trivial, (by rw [ht]; exact hP9), hD9⟩, hS.F ht⟩) hS.2.2 dX1_leversOf_43
      · rw [ki_le] at c50
        refine lv_aload_n hx hb dX1_leversOf_14 rfl (lv_at hl 0 rfl) ?_
        refine va_get (D := (dC, dI)) (ci := 1) (v := .ref a1) (C := RX1) (T := TX1) (N := 10) hx hb hwd inlX1 hown hK hP 0 rfl rfl 1 (by decide) (hwd _ kr12_14) (fun _ h9 => h9) rfl dX1_leversOf_15 ?_
        refine lv_iload_n hx hb dX1_leversOf_18 rfl (lv_at hl 3 rfl) ?_
        have h51 : vp_in w3_1 10 := (vp_of (by omega) (by omega))
        refine va_iald hx hb hK hP 1 0 rfl rfl h51 dX1_leversOf_19 ?_
        refine lv_topi (fun x52 ex52 => ?_)
        refine lv_iconst (v := 3) hx hb dX1_leversOf_20 (by decide) ?_
        refine lv_icmp_ne (tgt := 42) hx hb dX1_leversOf_21 (by decide) (fun c53 => ?_) (fun c53 => ?_)
        · rw [ki_eq] at c53
          refine lv_iload_n hx hb dX1_leversOf_42 rfl (lv_at hl 2 rfl) ?_
          have hP9 := hP.sub (ws' := [(a0, .inr (1, [.int i0, .ref a1, .ref a2, .ref a3, .ref a4, .ref a5, .ref a6, .ref a7, .ref a8, .ref a9])), (a1, .inl (cI, 10, .inl xF0)), (a2, .inl (cI, 10, .inl xF1))]) [0, 1, 2] rfl
          have hD9 := hD.sub (ws' := [(a0, .inr (1, [.int i0, .ref a1, .ref a2, .ref a3, .ref a4, .ref a5, .ref a6, .ref a7, .ref a8, .ref a9])), (a1, .inl (cI, 10, .inl xF0)), (a2, .inl (cI, 10, .inl xF1))]) [0, 1, 2] (by decide) rfl
          rw [hQ]
          exact W.iret (v := w2_1) hx hb hr (fun t ht hW => ⟨⟨w2_1, (), rfl, trivial, (by rw [ht]; exact hP9), hD9⟩, hS.F ht⟩) hS.2.2 dX1_leversOf_43
        · rw [ki_eq] at c53
          refine lv_iload_n hx hb dX1_leversOf_24 rfl (lv_at hl 2 rfl) ?_
          refine lv_iconst (v := 1) hx hb dX1_leversOf_25 (by decide) ?_
          refine lv_iload_n hx hb dX1_leversOf_26 rfl (lv_at hl 3 rfl) ?_
          refine lv_ishl hx hb dX1_leversOf_27 ?_
          refine lv_topi (fun x54 ex54 => ?_)
          refine lv_ior hx hb dX1_leversOf_28 ?_
          refine lv_topi (fun x55 ex55 => ?_)
          refine lv_istore_n (lv' := [(2, .int x55), (0, .ref a0), (1, .int p0), (3, .int w3_1), (4, .int w4_1)]) hx hb dX1_leversOf_29 rfl hl (by decide) rfl (fun ls hl => ?_)
          refine lv_aload_n hx hb dX1_leversOf_30 rfl (lv_at hl 1 rfl) ?_
          refine lv_iload_n hx hb dX1_leversOf_31 rfl (lv_at hl 3 rfl) ?_
          have hPc := hP.sub (ws' := [(a0, .inr (1, [.int i0, .ref a1, .ref a2, .ref a3, .ref a4, .ref a5, .ref a6, .ref a7, .ref a8, .ref a9])), (a2, .inl (cI, 10, .inl xF1))]) [0, 2] rfl
          have hDc := hD.sub (ws' := [(a0, .inr (1, [.int i0, .ref a1, .ref a2, .ref a3, .ref a4, .ref a5, .ref a6, .ref a7, .ref a8, .ref a9])), (a2, .inl (cI, 10, .inl xF1))]) [0, 2] (by decide) rfl
          have hFc := va_free (wc := [(a0, .inr (1, [.int i0, .ref a1, .ref a2, .ref a3, .ref a4, .ref a5, .ref a6, .ref a7, .ref a8, .ref a9])), (a2, .inl (cI, 10, .inl xF1))]) hD hS hA [0, 2] rfl
          refine va_calli (va_runV (As := [.int w3_1]) (rest := []) ⟨hx, hb, hml, hown, hwd⟩ (s_X1_below l dC dI cI cZ cB cJ cM cG a0 a1 a2 a3 a4 a5 a6 a7 a8 a9 i0 xF1 w3_1 H.size (show (0 : Int) ≤ i0.toInt ∧ i0.toInt ≤ 10 from p_0) (show (0 : Int) ≤ w3_1.toInt ∧ w3_1.toInt ≤ 9 from ⟨by omega, by omega⟩)) (cwV 1 hwd (gV kr25_7 kr25_8 kr1_10 kr5_20 kr25_9) rfl rfl rfl (by decide +kernel) ⟨Nat.le_of_ble_eq_true rfl, Nat.le_of_ble_eq_true rfl⟩) (kPreV hPc hK hDc (ci := 1) (q0 := 0) rfl rfl) rfl rfl hl.1 rfl (lv_room (Nat.le_of_ble_eq_true rfl)) dX1_leversOf_32 ⟨Nat.le_of_ble_eq_true rfl, Nat.le_of_ble_eq_true rfl⟩) hS (fun q _ h => hFc q h) hFc (fun r56 u57 t H1 locs ht9 hvm hw hB hz1 hk1 hS => ?_)
          obtain ⟨hw58, -⟩ := hw
          replace hw58 : (0 : Int) ≤ r56.toInt ∧ r56.toInt ≤ 8 := hw58
          obtain ⟨hP1, hD1⟩ := hB
          rw [ht9] at hP1
          obtain ⟨hP, hD⟩ := va_join (wr := [(a1, .inl (cI, 10, .inl xF0))]) (w1 := [(a0, .inr (1, [.int i0, .ref a1, .ref a2, .ref a3, .ref a4, .ref a5, .ref a6, .ref a7, .ref a8, .ref a9])), (a2, .inl (cI, 10, .inl xF1))]) hP hD [0, 2] [1] rfl rfl (by decide) (by decide) hk1 hFc hP1 hD1
          generalize H1 = H at hP hS ⊢
          replace hP : va_P (dC, dI) vwCl [(a1, .inl (cI, 10, .inl xF0)), (a0, .inr (1, [.int i0, .ref a1, .ref a2, .ref a3, .ref a4, .ref a5, .ref a6, .ref a7, .ref a8, .ref a9])), (a2, .inl (cI, 10, .inl xF1))] H := hP
          replace hD : va_D A [(a1, .inl (cI, 10, .inl xF0)), (a0, .inr (1, [.int i0, .ref a1, .ref a2, .ref a3, .ref a4, .ref a5, .ref a6, .ref a7, .ref a8, .ref a9])), (a2, .inl (cI, 10, .inl xF1))] := hD
          refine lv_istore_n (lv' := [(3, .int r56), (2, .int x55), (0, .ref a0), (1, .int p0), (4, .int w4_1)]) hx hb dX1_leversOf_35 rfl hl (by decide) rfl (fun ls hl => ?_)
          obtain ⟨x59, ex59⟩ : ∃ y : Int32, y = w4_1 + 1 := ⟨_, rfl⟩
          refine lv_iinc (v := x59) (lv' := [(4, .int x59), (3, .int r56), (2, .int x55), (0, .ref a0), (1, .int p0)]) hx hb dX1_leversOf_36 hl (k := 4) rfl (by rw [ex59]; rfl) (by decide) rfl (fun ls hl => ?_)
          have tx59 := ia_add (a := w4_1) (b := (1 : Int32)) (by omega) (by omega)
          rw [← ex59] at tx59
          refine lv_goto (tgt := 7) hx hb dX1_leversOf_39 (by decide) ?_
          exact ih1 _ _ ls x55 r56 x59 (show (0 : Int) ≤ r56.toInt ∧ r56.toInt ≤ 9 from ⟨by omega, by omega⟩) (show (0 : Int) ≤ x59.toInt ∧ x59.toInt ≤ 10 from ⟨by omega, by omega⟩) (by omega) (hP.sub (ws' := [(a0, .inr (1, [.int i0, .ref a1, .ref a2, .ref a3, .ref a4, .ref a5, .ref a6, .ref a7, .ref a8, .ref a9])), (a1, .inl (cI, 10, .inl xF0)), (a2, .inl (cI, 10, .inl xF1))]) [1, 0, 2] rfl) (hD.sub (ws' := [(a0, .inr (1, [.int i0, .ref a1, .ref a2, .ref a3, .ref a4, .ref a5, .ref a6, .ref a7, .ref a8, .ref a9])), (a1, .inl (cI, 10, .inl xF0)), (a2, .inl (cI, 10, .inl xF1))]) [1, 0, 2] (by decide) rfl) hS (lv_sub hl [3, 4, 2, 1, 0] rfl)
  exact lp1 _ _ _ ls (0) p0 (0) (show (0 : Int) ≤ p0.toInt ∧ p0.toInt ≤ 9 from p_1) (show (0 : Int) ≤ (0 : Int32).toInt ∧ (0 : Int32).toInt ≤ 10 from ⟨by omega, by omega⟩) (Nat.lt_succ_self _) (hP.sub (ws' := [(a0, .inr (1, [.int i0, .ref a1, .ref a2, .ref a3, .ref a4, .ref a5, .ref a6, .ref a7, .ref a8, .ref a9])), (a1, .inl (cI, 10, .inl xF0)), (a2, .inl (cI, 10, .inl xF1))]) [0, 1, 2] rfl) (hD.sub (ws' := [(a0, .inr (1, [.int i0, .ref a1, .ref a2, .ref a3, .ref a4, .ref a5, .ref a6, .ref a7, .ref a8, .ref a9])), (a1, .inl (cI, 10, .inl xF0)), (a2, .inl (cI, 10, .inl xF1))]) [0, 1, 2] (by decide) rfl) hS (lv_sub hl [3, 4, 2, 1, 0] rfl)
theorem dX1_leverOver_0 : decode cX1_leverOver 0 = .ok (.aload_n 0, 1) := by decide +kernel
theorem dX1_leverOver_1 : decode cX1_leverOver 1 = .ok (.getfield 21, 3) := by decide +kernel
theorem dX1_leverOver_4 : decode cX1_leverOver 4 = .ok (.iload_n 1, 1) := by decide +kernel
theorem dX1_leverOver_5 : decode cX1_leverOver 5 = .ok (.iaload, 1) := by decide +kernel
theorem dX1_leverOver_6 : decode cX1_leverOver 6 = .ok (.iconst 1, 1) := by decide +kernel
theorem dX1_leverOver_7 : decode cX1_leverOver 7 = .ok (.if_icmp .ge 7, 3) := by decide +kernel
theorem dX1_leverOver_10 : decode cX1_leverOver 10 = .ok (.iconst 0, 1) := by decide +kernel
theorem dX1_leverOver_11 : decode cX1_leverOver 11 = .ok (.goto 24, 3) := by decide +kernel
theorem dX1_leverOver_14 : decode cX1_leverOver 14 = .ok (.iload_n 2, 1) := by decide +kernel
theorem dX1_leverOver_15 : decode cX1_leverOver 15 = .ok (.aload_n 0, 1) := by decide +kernel
theorem dX1_leverOver_16 : decode cX1_leverOver 16 = .ok (.getfield 18, 3) := by decide +kernel
theorem dX1_leverOver_19 : decode cX1_leverOver 19 = .ok (.iload_n 1, 1) := by decide +kernel
theorem dX1_leverOver_20 : decode cX1_leverOver 20 = .ok (.iaload, 1) := by decide +kernel
theorem dX1_leverOver_21 : decode cX1_leverOver 21 = .ok (.imul, 1) := by decide +kernel
theorem dX1_leverOver_22 : decode cX1_leverOver 22 = .ok (.aload_n 0, 1) := by decide +kernel
theorem dX1_leverOver_23 : decode cX1_leverOver 23 = .ok (.getfield 21, 3) := by decide +kernel
theorem dX1_leverOver_26 : decode cX1_leverOver 26 = .ok (.iload_n 1, 1) := by decide +kernel
theorem dX1_leverOver_27 : decode cX1_leverOver 27 = .ok (.iaload, 1) := by decide +kernel
theorem dX1_leverOver_28 : decode cX1_leverOver 28 = .ok (.idiv, 1) := by decide +kernel
theorem dX1_leverOver_29 : decode cX1_leverOver 29 = .ok (.sipush 9999, 3) := by decide +kernel
theorem dX1_leverOver_32 : decode cX1_leverOver 32 = .ok (.invokestatic 99, 3) := by decide +kernel
theorem dX1_leverOver_35 : decode cX1_leverOver 35 = .ok (.ireturn, 1) := by decide +kernel
set_option maxHeartbeats 4000000 in
set_option maxRecDepth 100000 in
theorem s_X1_leverOver (l : Launch) (dC : Nat → ClassId) (dI : Nat → Nat → Nat) (cI cZ cB cJ cM cG : ClassId) (a0 a1 a2 a3 a4 a5 a6 a7 a8 a9 : Nat) (i0 : Int32) (xF2 xF3 : Nat → Int32) (p0 p1 : Int32) (sz : Nat) (p_0 : (0 : Int) ≤ i0.toInt ∧ i0.toInt ≤ 10) (p_1 : rng xF2 10 0 9) (p_2 : (0 : Int) ≤ p0.toInt ∧ p0.toInt ≤ 9) : Met l yX1_leverOver (kw yX1_leverOver cX1_leverOver 3 (some .int)) ({ frames := 1, cells := 0, slots := 0, locals := 24 } : Room) (va_Pc [.ref a0, .int p0, .int p1] (kPre dC dI [(cI, .int), (cZ, .boolean), (cB, .byte), (cJ, .long), (cM, .object RX2), (cG, .array .int)] [(a0, .inr (1, [.int i0, .ref a1, .ref a2, .ref a3, .ref a4, .ref a5, .ref a6, .ref a7, .ref a8, .ref a9])), (a3, .inl (cI, 10, .inl xF2)), (a4, .inl (cI, 10, .inl xF3))] sz)) (va_Qi (fun (r : Int32) (u9 : Unit) => ((-2147483648 : Int) ≤ r.toInt ∧ r.toInt ≤ 9999) ∧ True) (fun u9 t => va_P (dC, dI) vwCl [(a0, .inr (1, [.int i0, .ref a1, .ref a2, .ref a3, .ref a4, .ref a5, .ref a6, .ref a7, .ref a8, .ref a9])), (a3, .inl (cI, 10, .inl xF2)), (a4, .inl (cI, 10, .inl xF3))] t.heap ∧ va_D (va_A [(a0, .inr (1, [.int i0, .ref a1, .ref a2, .ref a3, .ref a4, .ref a5, .ref a6, .ref a7, .ref a8, .ref a9])), (a3, .inl (cI, 10, .inl xF2)), (a4, .inl (cI, 10, .inl xF3))] sz) [(a0, .inr (1, [.int i0, .ref a1, .ref a2, .ref a3, .ref a4, .ref a5, .ref a6, .ref a7, .ref a8, .ref a9])), (a3, .inl (cI, 10, .inl xF2)), (a4, .inl (cI, 10, .inl xF3))]) (va_A [(a0, .inr (1, [.int i0, .ref a1, .ref a2, .ref a3, .ref a4, .ref a5, .ref a6, .ref a7, .ref a8, .ref a9])), (a3, .inl (cI, 10, .inl xF2)), (a4, .inl (cI, 10, .inl xF3))] sz)) 0 0 (va_A [(a0, .inr (1, [.int i0, .ref a1, .ref a2, .ref a3, .ref a4, .ref a5, .ref a6, .ref a7, .ref a8, .ref a9])), (a3, .inl (cI, 10, .inl xF2)), (a4, .inl (cI, 10, .inl xF3))] sz) := by
  refine kEnter (by decide) (Nat.le_of_ble_eq_true rfl) ?_
  intro p e s m below meth c ls hx hb hr hml hown hlocks hin hwd hsz hP hK hD hl
  subst hsz
  generalize hAe : va_A [(a0, .inr (1, [.int i0, .ref a1, .ref a2, .ref a3, .ref a4, .ref a5, .ref a6, .ref a7, .ref a8, .ref a9])), (a3, .inl (cI, 10, .inl xF2)), (a4, .inl (cI, 10, .inl xF3))] s.heap.size = A at hD ⊢
  have hA : ∀ q : Nat, s.heap.size ≤ q → A q := fun q h => by rw [← hAe]; exact Or.inr h
  have hS : va_S A s.heap s.heap [] := va_S.rf
  have hl : lv_has ls 3 [(0, .ref a0), (1, .int p0), (2, .int p1)] := hl
  obtain ⟨Q, hQ⟩ : ∃ Q, Q = MQ below (va_Qi (fun (r : Int32) (u9 : Unit) => ((-2147483648 : Int) ≤ r.toInt ∧ r.toInt ≤ 9999) ∧ True) (fun u9 t => va_P (dC, dI) vwCl [(a0, .inr (1, [.int i0, .ref a1, .ref a2, .ref a3, .ref a4, .ref a5, .ref a6, .ref a7, .ref a8, .ref a9])), (a3, .inl (cI, 10, .inl xF2)), (a4, .inl (cI, 10, .inl xF3))] t.heap ∧ va_D A [(a0, .inr (1, [.int i0, .ref a1, .ref a2, .ref a3, .ref a4, .ref a5, .ref a6, .ref a7, .ref a8, .ref a9])), (a3, .inl (cI, 10, .inl xF2)), (a4, .inl (cI, 10, .inl xF3))]) A) ([.ref a0, .int p0, .int p1] : List Value).toArray s 0 0 A := ⟨_, rfl⟩
  rw [← hQ]
  have k0 : (0 : Int32).toInt = 0 := by decide
  have k1 : (1 : Int32).toInt = 1 := by decide
  have k9999 : (9999 : Int32).toInt = 9999 := by decide
  refine lv_aload_n hx hb dX1_leverOver_0 rfl (lv_at hl 0 rfl) ?_
  refine va_get (D := (dC, dI)) (ci := 1) (v := .ref a4) (C := RX1) (T := TX1) (N := 10) hx hb hwd inlX1 hown hK hP 0 rfl rfl 4 (by decide) (hwd _ kr12_22) (fun _ h9 => h9) rfl dX1_leverOver_1 ?_
  refine lv_iload_n hx hb dX1_leverOver_4 rfl (lv_at hl 1 rfl) ?_
  have h1 : vp_in p0 10 := (vp_of (by omega) (by omega))
  refine va_iald hx hb hK hP 2 0 rfl rfl h1 dX1_leverOver_5 ?_
  refine lv_topi (fun x2 ex2 => ?_)
  refine lv_iconst (v := 1) hx hb dX1_leverOver_6 (by decide) ?_
  refine lv_icmp_ge (tgt := 14) hx hb dX1_leverOver_7 (by decide) (fun c3 => ?_) (fun c3 => ?_)
  · rw [ki_le] at c3
    refine lv_iload_n hx hb dX1_leverOver_14 rfl (lv_at hl 2 rfl) ?_
    refine lv_aload_n hx hb dX1_leverOver_15 rfl (lv_at hl 0 rfl) ?_
    refine va_get (D := (dC, dI)) (ci := 1) (v := .ref a3) (C := RX1) (T := TX1) (N := 10) hx hb hwd inlX1 hown hK hP 0 rfl rfl 3 (by decide) (hwd _ kr12_20) (fun _ h9 => h9) rfl dX1_leverOver_16 ?_
    refine lv_iload_n hx hb dX1_leverOver_19 rfl (lv_at hl 1 rfl) ?_
    have h4 : vp_in p0 10 := (vp_of (by omega) (by omega))
    refine va_iald hx hb hK hP 1 0 rfl rfl h4 dX1_leverOver_20 ?_
    refine lv_topi (fun x5 ex5 => ?_)
    have tx5 : (0 : Int) ≤ x5.toInt ∧ x5.toInt ≤ 9 := by rw [ex5]; exact p_1 _ (vp_nat h4)
    refine lv_imul hx hb dX1_leverOver_21 ?_
    refine lv_topi (fun x6 ex6 => ?_)
    refine lv_aload_n hx hb dX1_leverOver_22 rfl (lv_at hl 0 rfl) ?_
    refine va_get (D := (dC, dI)) (ci := 1) (v := .ref a4) (C := RX1) (T := TX1) (N := 10) hx hb hwd inlX1 hown hK hP 0 rfl rfl 4 (by decide) (hwd _ kr12_22) (fun _ h9 => h9) rfl dX1_leverOver_23 ?_
    refine lv_iload_n hx hb dX1_leverOver_26 rfl (lv_at hl 1 rfl) ?_
    have h7 : vp_in p0 10 := (vp_of (by omega) (by omega))
    refine va_iald hx hb hK hP 2 0 rfl rfl h7 dX1_leverOver_27 ?_
    refine lv_topi (nm_r (e' := x2) ex2.symm ?_)
    refine lv_idiv hx hb dX1_leverOver_28 (fun h9 => by rw [ki_eq] at h9; omega) ?_
    refine lv_topi (fun x8 ex8 => ?_)
    refine lv_sipush (v := 9999) hx hb dX1_leverOver_29 (by decide) ?_
    refine va_mmin hx hb (by rw [hml]; exact hl.1.symm) hown (hwd _ kr27_1) (hwd _ kr27_2) (hwd _ kr6_4) (hwd _ kr27_3) (Nat.le_of_ble_eq_true rfl) (Nat.le_of_ble_eq_true rfl) (Nat.le_of_ble_eq_true rfl) (Nat.le_of_ble_eq_true rfl) dX1_leverOver_32 ?_
    refine lv_topi (fun x9 ex9 => ?_)
    have tx9 := mx_min x8 (9999 : Int32)
    rw [← ex9] at tx9
    have hP9 := hP.sub (ws' := [(a0, .inr (1, [.int i0, .ref a1, .ref a2, .ref a3, .ref a4, .ref a5, .ref a6, .ref a7, .ref a8, .ref a9])), (a3, .inl (cI, 10, .inl xF2)), (a4, .inl (cI, 10, .inl xF3))]) [0, 1, 2] rfl
    have hD9 := hD.sub (ws' := [(a0, .inr (1, [.int i0, .ref a1, .ref a2, .ref a3, .ref a4, .ref a5, .ref a6, .ref a7, .ref a8, .ref a9])), (a3, .inl (cI, 10, .inl xF2)), (a4, .inl (cI, 10, .inl xF3))]) [0, 1, 2] (by decide) rfl
    rw [hQ]
    exact W.iret (v := x9) hx hb hr (fun t ht hW => ⟨⟨x9, (), rfl, ⟨(show (-2147483648 : Int) ≤ x9.toInt ∧ x9.toInt ≤ 9999 from ⟨i32_lo, by omega⟩), trivial⟩, (by rw [ht]; exact hP9), hD9⟩, hS.F ht⟩) hS.2.2 dX1_leverOver_35
  · rw [ki_le] at c3
    refine lv_iconst (v := 0) hx hb dX1_leverOver_10 (by decide) ?_
    refine lv_goto (tgt := 35) hx hb dX1_leverOver_11 (by decide) ?_
    have hP9 := hP.sub (ws' := [(a0, .inr (1, [.int i0, .ref a1, .ref a2, .ref a3, .ref a4, .ref a5, .ref a6, .ref a7, .ref a8, .ref a9])), (a3, .inl (cI, 10, .inl xF2)), (a4, .inl (cI, 10, .inl xF3))]) [0, 1, 2] rfl
    have hD9 := hD.sub (ws' := [(a0, .inr (1, [.int i0, .ref a1, .ref a2, .ref a3, .ref a4, .ref a5, .ref a6, .ref a7, .ref a8, .ref a9])), (a3, .inl (cI, 10, .inl xF2)), (a4, .inl (cI, 10, .inl xF3))]) [0, 1, 2] (by decide) rfl
    rw [hQ]
    exact W.iret (v := 0) hx hb hr (fun t ht hW => ⟨⟨0, (), rfl, ⟨(show (-2147483648 : Int) ≤ (0 : Int32).toInt ∧ (0 : Int32).toInt ≤ 9999 from ⟨i32_lo, by omega⟩), trivial⟩, (by rw [ht]; exact hP9), hD9⟩, hS.F ht⟩) hS.2.2 dX1_leverOver_35
theorem dX1_copyFrom_0 : decode cX1_copyFrom 0 = .ok (.aload_n 0, 1) := by decide +kernel
theorem dX1_copyFrom_1 : decode cX1_copyFrom 1 = .ok (.aload_n 1, 1) := by decide +kernel
theorem dX1_copyFrom_2 : decode cX1_copyFrom 2 = .ok (.getfield 49, 3) := by decide +kernel
theorem dX1_copyFrom_5 : decode cX1_copyFrom 5 = .ok (.putfield 49, 3) := by decide +kernel
theorem dX1_copyFrom_8 : decode cX1_copyFrom 8 = .ok (.aload_n 1, 1) := by decide +kernel
theorem dX1_copyFrom_9 : decode cX1_copyFrom 9 = .ok (.getfield 9, 3) := by decide +kernel
theorem dX1_copyFrom_12 : decode cX1_copyFrom 12 = .ok (.iconst 0, 1) := by decide +kernel
theorem dX1_copyFrom_13 : decode cX1_copyFrom 13 = .ok (.aload_n 0, 1) := by decide +kernel
theorem dX1_copyFrom_14 : decode cX1_copyFrom 14 = .ok (.getfield 9, 3) := by decide +kernel
theorem dX1_copyFrom_17 : decode cX1_copyFrom 17 = .ok (.iconst 0, 1) := by decide +kernel
theorem dX1_copyFrom_18 : decode cX1_copyFrom 18 = .ok (.bipush 10, 2) := by decide +kernel
theorem dX1_copyFrom_20 : decode cX1_copyFrom 20 = .ok (.invokestatic 89, 3) := by decide +kernel
theorem dX1_copyFrom_23 : decode cX1_copyFrom 23 = .ok (.aload_n 1, 1) := by decide +kernel
theorem dX1_copyFrom_24 : decode cX1_copyFrom 24 = .ok (.getfield 15, 3) := by decide +kernel
theorem dX1_copyFrom_27 : decode cX1_copyFrom 27 = .ok (.iconst 0, 1) := by decide +kernel
theorem dX1_copyFrom_28 : decode cX1_copyFrom 28 = .ok (.aload_n 0, 1) := by decide +kernel
theorem dX1_copyFrom_29 : decode cX1_copyFrom 29 = .ok (.getfield 15, 3) := by decide +kernel
theorem dX1_copyFrom_32 : decode cX1_copyFrom 32 = .ok (.iconst 0, 1) := by decide +kernel
theorem dX1_copyFrom_33 : decode cX1_copyFrom 33 = .ok (.bipush 10, 2) := by decide +kernel
theorem dX1_copyFrom_35 : decode cX1_copyFrom 35 = .ok (.invokestatic 89, 3) := by decide +kernel
theorem dX1_copyFrom_38 : decode cX1_copyFrom 38 = .ok (.aload_n 1, 1) := by decide +kernel
theorem dX1_copyFrom_39 : decode cX1_copyFrom 39 = .ok (.getfield 18, 3) := by decide +kernel
theorem dX1_copyFrom_42 : decode cX1_copyFrom 42 = .ok (.iconst 0, 1) := by decide +kernel
theorem dX1_copyFrom_43 : decode cX1_copyFrom 43 = .ok (.aload_n 0, 1) := by decide +kernel
theorem dX1_copyFrom_44 : decode cX1_copyFrom 44 = .ok (.getfield 18, 3) := by decide +kernel
theorem dX1_copyFrom_47 : decode cX1_copyFrom 47 = .ok (.iconst 0, 1) := by decide +kernel
theorem dX1_copyFrom_48 : decode cX1_copyFrom 48 = .ok (.bipush 10, 2) := by decide +kernel
theorem dX1_copyFrom_50 : decode cX1_copyFrom 50 = .ok (.invokestatic 89, 3) := by decide +kernel
theorem dX1_copyFrom_53 : decode cX1_copyFrom 53 = .ok (.aload_n 1, 1) := by decide +kernel
theorem dX1_copyFrom_54 : decode cX1_copyFrom 54 = .ok (.getfield 21, 3) := by decide +kernel
theorem dX1_copyFrom_57 : decode cX1_copyFrom 57 = .ok (.iconst 0, 1) := by decide +kernel
theorem dX1_copyFrom_58 : decode cX1_copyFrom 58 = .ok (.aload_n 0, 1) := by decide +kernel
theorem dX1_copyFrom_59 : decode cX1_copyFrom 59 = .ok (.getfield 21, 3) := by decide +kernel
theorem dX1_copyFrom_62 : decode cX1_copyFrom 62 = .ok (.iconst 0, 1) := by decide +kernel
theorem dX1_copyFrom_63 : decode cX1_copyFrom 63 = .ok (.bipush 10, 2) := by decide +kernel
theorem dX1_copyFrom_65 : decode cX1_copyFrom 65 = .ok (.invokestatic 89, 3) := by decide +kernel
theorem dX1_copyFrom_68 : decode cX1_copyFrom 68 = .ok (.aload_n 1, 1) := by decide +kernel
theorem dX1_copyFrom_69 : decode cX1_copyFrom 69 = .ok (.getfield 24, 3) := by decide +kernel
theorem dX1_copyFrom_72 : decode cX1_copyFrom 72 = .ok (.iconst 0, 1) := by decide +kernel
theorem dX1_copyFrom_73 : decode cX1_copyFrom 73 = .ok (.aload_n 0, 1) := by decide +kernel
theorem dX1_copyFrom_74 : decode cX1_copyFrom 74 = .ok (.getfield 24, 3) := by decide +kernel
theorem dX1_copyFrom_77 : decode cX1_copyFrom 77 = .ok (.iconst 0, 1) := by decide +kernel
theorem dX1_copyFrom_78 : decode cX1_copyFrom 78 = .ok (.bipush 10, 2) := by decide +kernel
theorem dX1_copyFrom_80 : decode cX1_copyFrom 80 = .ok (.invokestatic 89, 3) := by decide +kernel
theorem dX1_copyFrom_83 : decode cX1_copyFrom 83 = .ok (.aload_n 1, 1) := by decide +kernel
theorem dX1_copyFrom_84 : decode cX1_copyFrom 84 = .ok (.getfield 27, 3) := by decide +kernel
theorem dX1_copyFrom_87 : decode cX1_copyFrom 87 = .ok (.iconst 0, 1) := by decide +kernel
theorem dX1_copyFrom_88 : decode cX1_copyFrom 88 = .ok (.aload_n 0, 1) := by decide +kernel
theorem dX1_copyFrom_89 : decode cX1_copyFrom 89 = .ok (.getfield 27, 3) := by decide +kernel
theorem dX1_copyFrom_92 : decode cX1_copyFrom 92 = .ok (.iconst 0, 1) := by decide +kernel
theorem dX1_copyFrom_93 : decode cX1_copyFrom 93 = .ok (.bipush 10, 2) := by decide +kernel
theorem dX1_copyFrom_95 : decode cX1_copyFrom 95 = .ok (.invokestatic 89, 3) := by decide +kernel
theorem dX1_copyFrom_98 : decode cX1_copyFrom 98 = .ok (.aload_n 1, 1) := by decide +kernel
theorem dX1_copyFrom_99 : decode cX1_copyFrom 99 = .ok (.getfield 30, 3) := by decide +kernel
theorem dX1_copyFrom_102 : decode cX1_copyFrom 102 = .ok (.iconst 0, 1) := by decide +kernel
theorem dX1_copyFrom_103 : decode cX1_copyFrom 103 = .ok (.aload_n 0, 1) := by decide +kernel
theorem dX1_copyFrom_104 : decode cX1_copyFrom 104 = .ok (.getfield 30, 3) := by decide +kernel
theorem dX1_copyFrom_107 : decode cX1_copyFrom 107 = .ok (.iconst 0, 1) := by decide +kernel
theorem dX1_copyFrom_108 : decode cX1_copyFrom 108 = .ok (.bipush 10, 2) := by decide +kernel
theorem dX1_copyFrom_110 : decode cX1_copyFrom 110 = .ok (.invokestatic 89, 3) := by decide +kernel
theorem dX1_copyFrom_113 : decode cX1_copyFrom 113 = .ok (.aload_n 1, 1) := by decide +kernel
theorem dX1_copyFrom_114 : decode cX1_copyFrom 114 = .ok (.getfield 33, 3) := by decide +kernel
theorem dX1_copyFrom_117 : decode cX1_copyFrom 117 = .ok (.iconst 0, 1) := by decide +kernel
theorem dX1_copyFrom_118 : decode cX1_copyFrom 118 = .ok (.aload_n 0, 1) := by decide +kernel
theorem dX1_copyFrom_119 : decode cX1_copyFrom 119 = .ok (.getfield 33, 3) := by decide +kernel
theorem dX1_copyFrom_122 : decode cX1_copyFrom 122 = .ok (.iconst 0, 1) := by decide +kernel
theorem dX1_copyFrom_123 : decode cX1_copyFrom 123 = .ok (.bipush 10, 2) := by decide +kernel
theorem dX1_copyFrom_125 : decode cX1_copyFrom 125 = .ok (.invokestatic 89, 3) := by decide +kernel
theorem dX1_copyFrom_128 : decode cX1_copyFrom 128 = .ok (.aload_n 1, 1) := by decide +kernel
theorem dX1_copyFrom_129 : decode cX1_copyFrom 129 = .ok (.getfield 36, 3) := by decide +kernel
theorem dX1_copyFrom_132 : decode cX1_copyFrom 132 = .ok (.iconst 0, 1) := by decide +kernel
theorem dX1_copyFrom_133 : decode cX1_copyFrom 133 = .ok (.aload_n 0, 1) := by decide +kernel
theorem dX1_copyFrom_134 : decode cX1_copyFrom 134 = .ok (.getfield 36, 3) := by decide +kernel
theorem dX1_copyFrom_137 : decode cX1_copyFrom 137 = .ok (.iconst 0, 1) := by decide +kernel
theorem dX1_copyFrom_138 : decode cX1_copyFrom 138 = .ok (.sipush 210, 3) := by decide +kernel
theorem dX1_copyFrom_141 : decode cX1_copyFrom 141 = .ok (.invokestatic 89, 3) := by decide +kernel
theorem dX1_copyFrom_144 : decode cX1_copyFrom 144 = .ok (.return_, 1) := by decide +kernel
set_option maxHeartbeats 4000000 in
set_option maxRecDepth 100000 in
theorem s_X1_copyFrom (l : Launch) (dC : Nat → ClassId) (dI : Nat → Nat → Nat) (cI cZ cB cJ cM cG : ClassId) (a0 a1 a2 a3 a4 a5 a6 a7 a8 a9 a10 a11 a12 a13 a14 a15 a16 a17 a18 a19 : Nat) (i0 i1 : Int32) (xF0 xF1 xF2 xF3 xF4 xF5 xF6 xF7 xF8 xF9 xF10 xF11 xF12 xF13 xF14 xF15 xF16 xF17 : Nat → Int32) (sz : Nat) (p_0 : (0 : Int) ≤ i0.toInt ∧ i0.toInt ≤ 10) (p_1 : rng xF2 10 0 9) (p_2 : (0 : Int) ≤ i1.toInt ∧ i1.toInt ≤ 10) (p_3 : rng xF11 10 0 9) : Met l yX1_copyFrom (kw yX1_copyFrom cX1_copyFrom 2 none) ({ frames := 1, cells := 0, slots := 0, locals := 64 } : Room) (va_Pc [.ref a0, .ref a10] (kPre dC dI [(cI, .int), (cZ, .boolean), (cB, .byte), (cJ, .long), (cM, .object RX2), (cG, .array .int)] [(a0, .inr (1, [.int i0, .ref a1, .ref a2, .ref a3, .ref a4, .ref a5, .ref a6, .ref a7, .ref a8, .ref a9])), (a1, .inl (cI, 10, .inl xF0)), (a2, .inl (cI, 10, .inl xF1)), (a3, .inl (cI, 10, .inl xF2)), (a4, .inl (cI, 10, .inl xF3)), (a5, .inl (cI, 10, .inl xF4)), (a6, .inl (cI, 10, .inl xF5)), (a7, .inl (cI, 10, .inl xF6)), (a8, .inl (cI, 10, .inl xF7)), (a9, .inl (cI, 210, .inl xF8)), (a10, .inr (1, [.int i1, .ref a11, .ref a12, .ref a13, .ref a14, .ref a15, .ref a16, .ref a17, .ref a18, .ref a19])), (a11, .inl (cI, 10, .inl xF9)), (a12, .inl (cI, 10, .inl xF10)), (a13, .inl (cI, 10, .inl xF11)), (a14, .inl (cI, 10, .inl xF12)), (a15, .inl (cI, 10, .inl xF13)), (a16, .inl (cI, 10, .inl xF14)), (a17, .inl (cI, 10, .inl xF15)), (a18, .inl (cI, 10, .inl xF16)), (a19, .inl (cI, 210, .inl xF17))] sz)) (va_Qv (fun (u9 : (Nat → Int32) × (Nat → Nat → Int32) × (Nat → Nat → Int64)) => ((0 : Int) ≤ (u9.1 0).toInt ∧ (u9.1 0).toInt ≤ 10) ∧ (rng (u9.2.1 2) 10 0 9) ∧ True) (fun u9 t => va_P (dC, dI) vwCl [(a0, .inr (1, [.int (u9.1 0), .ref a1, .ref a2, .ref a3, .ref a4, .ref a5, .ref a6, .ref a7, .ref a8, .ref a9])), (a1, .inl (cI, 10, .inl (u9.2.1 0))), (a2, .inl (cI, 10, .inl (u9.2.1 1))), (a3, .inl (cI, 10, .inl (u9.2.1 2))), (a4, .inl (cI, 10, .inl (u9.2.1 3))), (a5, .inl (cI, 10, .inl (u9.2.1 4))), (a6, .inl (cI, 10, .inl (u9.2.1 5))), (a7, .inl (cI, 10, .inl (u9.2.1 6))), (a8, .inl (cI, 10, .inl (u9.2.1 7))), (a9, .inl (cI, 210, .inl (u9.2.1 8))), (a10, .inr (1, [.int i1, .ref a11, .ref a12, .ref a13, .ref a14, .ref a15, .ref a16, .ref a17, .ref a18, .ref a19])), (a11, .inl (cI, 10, .inl xF9)), (a12, .inl (cI, 10, .inl xF10)), (a13, .inl (cI, 10, .inl xF11)), (a14, .inl (cI, 10, .inl xF12)), (a15, .inl (cI, 10, .inl xF13)), (a16, .inl (cI, 10, .inl xF14)), (a17, .inl (cI, 10, .inl xF15)), (a18, .inl (cI, 10, .inl xF16)), (a19, .inl (cI, 210, .inl xF17))] t.heap ∧ va_D (va_A [(a0, .inr (1, [.int i0, .ref a1, .ref a2, .ref a3, .ref a4, .ref a5, .ref a6, .ref a7, .ref a8, .ref a9])), (a1, .inl (cI, 10, .inl xF0)), (a2, .inl (cI, 10, .inl xF1)), (a3, .inl (cI, 10, .inl xF2)), (a4, .inl (cI, 10, .inl xF3)), (a5, .inl (cI, 10, .inl xF4)), (a6, .inl (cI, 10, .inl xF5)), (a7, .inl (cI, 10, .inl xF6)), (a8, .inl (cI, 10, .inl xF7)), (a9, .inl (cI, 210, .inl xF8)), (a10, .inr (1, [.int i1, .ref a11, .ref a12, .ref a13, .ref a14, .ref a15, .ref a16, .ref a17, .ref a18, .ref a19])), (a11, .inl (cI, 10, .inl xF9)), (a12, .inl (cI, 10, .inl xF10)), (a13, .inl (cI, 10, .inl xF11)), (a14, .inl (cI, 10, .inl xF12)), (a15, .inl (cI, 10, .inl xF13)), (a16, .inl (cI, 10, .inl xF14)), (a17, .inl (cI, 10, .inl xF15)), (a18, .inl (cI, 10, .inl xF16)), (a19, .inl (cI, 210, .inl xF17))] sz) [(a0, .inr (1, [.int (u9.1 0), .ref a1, .ref a2, .ref a3, .ref a4, .ref a5, .ref a6, .ref a7, .ref a8, .ref a9])), (a1, .inl (cI, 10, .inl (u9.2.1 0))), (a2, .inl (cI, 10, .inl (u9.2.1 1))), (a3, .inl (cI, 10, .inl (u9.2.1 2))), (a4, .inl (cI, 10, .inl (u9.2.1 3))), (a5, .inl (cI, 10, .inl (u9.2.1 4))), (a6, .inl (cI, 10, .inl (u9.2.1 5))), (a7, .inl (cI, 10, .inl (u9.2.1 6))), (a8, .inl (cI, 10, .inl (u9.2.1 7))), (a9, .inl (cI, 210, .inl (u9.2.1 8))), (a10, .inr (1, [.int i1, .ref a11, .ref a12, .ref a13, .ref a14, .ref a15, .ref a16, .ref a17, .ref a18, .ref a19])), (a11, .inl (cI, 10, .inl xF9)), (a12, .inl (cI, 10, .inl xF10)), (a13, .inl (cI, 10, .inl xF11)), (a14, .inl (cI, 10, .inl xF12)), (a15, .inl (cI, 10, .inl xF13)), (a16, .inl (cI, 10, .inl xF14)), (a17, .inl (cI, 10, .inl xF15)), (a18, .inl (cI, 10, .inl xF16)), (a19, .inl (cI, 210, .inl xF17))]) (va_A [(a0, .inr (1, [.int i0, .ref a1, .ref a2, .ref a3, .ref a4, .ref a5, .ref a6, .ref a7, .ref a8, .ref a9])), (a1, .inl (cI, 10, .inl xF0)), (a2, .inl (cI, 10, .inl xF1)), (a3, .inl (cI, 10, .inl xF2)), (a4, .inl (cI, 10, .inl xF3)), (a5, .inl (cI, 10, .inl xF4)), (a6, .inl (cI, 10, .inl xF5)), (a7, .inl (cI, 10, .inl xF6)), (a8, .inl (cI, 10, .inl xF7)), (a9, .inl (cI, 210, .inl xF8)), (a10, .inr (1, [.int i1, .ref a11, .ref a12, .ref a13, .ref a14, .ref a15, .ref a16, .ref a17, .ref a18, .ref a19])), (a11, .inl (cI, 10, .inl xF9)), (a12, .inl (cI, 10, .inl xF10)), (a13, .inl (cI, 10, .inl xF11)), (a14, .inl (cI, 10, .inl xF12)), (a15, .inl (cI, 10, .inl xF13)), (a16, .inl (cI, 10, .inl xF14)), (a17, .inl (cI, 10, .inl xF15)), (a18, .inl (cI, 10, .inl xF16)), (a19, .inl (cI, 210, .inl xF17))] sz)) 0 0 (va_A [(a0, .inr (1, [.int i0, .ref a1, .ref a2, .ref a3, .ref a4, .ref a5, .ref a6, .ref a7, .ref a8, .ref a9])), (a1, .inl (cI, 10, .inl xF0)), (a2, .inl (cI, 10, .inl xF1)), (a3, .inl (cI, 10, .inl xF2)), (a4, .inl (cI, 10, .inl xF3)), (a5, .inl (cI, 10, .inl xF4)), (a6, .inl (cI, 10, .inl xF5)), (a7, .inl (cI, 10, .inl xF6)), (a8, .inl (cI, 10, .inl xF7)), (a9, .inl (cI, 210, .inl xF8)), (a10, .inr (1, [.int i1, .ref a11, .ref a12, .ref a13, .ref a14, .ref a15, .ref a16, .ref a17, .ref a18, .ref a19])), (a11, .inl (cI, 10, .inl xF9)), (a12, .inl (cI, 10, .inl xF10)), (a13, .inl (cI, 10, .inl xF11)), (a14, .inl (cI, 10, .inl xF12)), (a15, .inl (cI, 10, .inl xF13)), (a16, .inl (cI, 10, .inl xF14)), (a17, .inl (cI, 10, .inl xF15)), (a18, .inl (cI, 10, .inl xF16)), (a19, .inl (cI, 210, .inl xF17))] sz) := by
  refine kEnter (by decide) (Nat.le_of_ble_eq_true rfl) ?_
  intro p e s m below meth c ls hx hb hr hml hown hlocks hin hwd hsz hP hK hD hl
  subst hsz
  generalize hAe : va_A [(a0, .inr (1, [.int i0, .ref a1, .ref a2, .ref a3, .ref a4, .ref a5, .ref a6, .ref a7, .ref a8, .ref a9])), (a1, .inl (cI, 10, .inl xF0)), (a2, .inl (cI, 10, .inl xF1)), (a3, .inl (cI, 10, .inl xF2)), (a4, .inl (cI, 10, .inl xF3)), (a5, .inl (cI, 10, .inl xF4)), (a6, .inl (cI, 10, .inl xF5)), (a7, .inl (cI, 10, .inl xF6)), (a8, .inl (cI, 10, .inl xF7)), (a9, .inl (cI, 210, .inl xF8)), (a10, .inr (1, [.int i1, .ref a11, .ref a12, .ref a13, .ref a14, .ref a15, .ref a16, .ref a17, .ref a18, .ref a19])), (a11, .inl (cI, 10, .inl xF9)), (a12, .inl (cI, 10, .inl xF10)), (a13, .inl (cI, 10, .inl xF11)), (a14, .inl (cI, 10, .inl xF12)), (a15, .inl (cI, 10, .inl xF13)), (a16, .inl (cI, 10, .inl xF14)), (a17, .inl (cI, 10, .inl xF15)), (a18, .inl (cI, 10, .inl xF16)), (a19, .inl (cI, 210, .inl xF17))] s.heap.size = A at hD ⊢
  have hA : ∀ q : Nat, s.heap.size ≤ q → A q := fun q h => by rw [← hAe]; exact Or.inr h
  have hS : va_S A s.heap s.heap [] := va_S.rf
  have hl : lv_has ls 2 [(0, .ref a0), (1, .ref a10)] := hl
  obtain ⟨Q, hQ⟩ : ∃ Q, Q = MQ below (va_Qv (fun (u9 : (Nat → Int32) × (Nat → Nat → Int32) × (Nat → Nat → Int64)) => ((0 : Int) ≤ (u9.1 0).toInt ∧ (u9.1 0).toInt ≤ 10) ∧ (rng (u9.2.1 2) 10 0 9) ∧ True) (fun u9 t => va_P (dC, dI) vwCl [(a0, .inr (1, [.int (u9.1 0), .ref a1, .ref a2, .ref a3, .ref a4, .ref a5, .ref a6, .ref a7, .ref a8, .ref a9])), (a1, .inl (cI, 10, .inl (u9.2.1 0))), (a2, .inl (cI, 10, .inl (u9.2.1 1))), (a3, .inl (cI, 10, .inl (u9.2.1 2))), (a4, .inl (cI, 10, .inl (u9.2.1 3))), (a5, .inl (cI, 10, .inl (u9.2.1 4))), (a6, .inl (cI, 10, .inl (u9.2.1 5))), (a7, .inl (cI, 10, .inl (u9.2.1 6))), (a8, .inl (cI, 10, .inl (u9.2.1 7))), (a9, .inl (cI, 210, .inl (u9.2.1 8))), (a10, .inr (1, [.int i1, .ref a11, .ref a12, .ref a13, .ref a14, .ref a15, .ref a16, .ref a17, .ref a18, .ref a19])), (a11, .inl (cI, 10, .inl xF9)), (a12, .inl (cI, 10, .inl xF10)), (a13, .inl (cI, 10, .inl xF11)), (a14, .inl (cI, 10, .inl xF12)), (a15, .inl (cI, 10, .inl xF13)), (a16, .inl (cI, 10, .inl xF14)), (a17, .inl (cI, 10, .inl xF15)), (a18, .inl (cI, 10, .inl xF16)), (a19, .inl (cI, 210, .inl xF17))] t.heap ∧ va_D A [(a0, .inr (1, [.int (u9.1 0), .ref a1, .ref a2, .ref a3, .ref a4, .ref a5, .ref a6, .ref a7, .ref a8, .ref a9])), (a1, .inl (cI, 10, .inl (u9.2.1 0))), (a2, .inl (cI, 10, .inl (u9.2.1 1))), (a3, .inl (cI, 10, .inl (u9.2.1 2))), (a4, .inl (cI, 10, .inl (u9.2.1 3))), (a5, .inl (cI, 10, .inl (u9.2.1 4))), (a6, .inl (cI, 10, .inl (u9.2.1 5))), (a7, .inl (cI, 10, .inl (u9.2.1 6))), (a8, .inl (cI, 10, .inl (u9.2.1 7))), (a9, .inl (cI, 210, .inl (u9.2.1 8))), (a10, .inr (1, [.int i1, .ref a11, .ref a12, .ref a13, .ref a14, .ref a15, .ref a16, .ref a17, .ref a18, .ref a19])), (a11, .inl (cI, 10, .inl xF9)), (a12, .inl (cI, 10, .inl xF10)), (a13, .inl (cI, 10, .inl xF11)), (a14, .inl (cI, 10, .inl xF12)), (a15, .inl (cI, 10, .inl xF13)), (a16, .inl (cI, 10, .inl xF14)), (a17, .inl (cI, 10, .inl xF15)), (a18, .inl (cI, 10, .inl xF16)), (a19, .inl (cI, 210, .inl xF17))]) A) ([.ref a0, .ref a10] : List Value).toArray s 0 0 A := ⟨_, rfl⟩
  rw [← hQ]
  refine lv_aload_n hx hb dX1_copyFrom_0 rfl (lv_at hl 0 rfl) ?_
  refine lv_aload_n hx hb dX1_copyFrom_1 rfl (lv_at hl 1 rfl) ?_
  refine va_get (D := (dC, dI)) (ci := 1) (v := .int i1) (C := RX1) (T := TX1) (N := 10) hx hb hwd inlX1 hown hK hP 10 rfl rfl 0 (by decide) (hwd _ kr12_9) (fun _ h9 => h9) rfl dX1_copyFrom_2 ?_
  refine va_put (D := (dC, dI)) (ci := 1) (v := .int i1) (ty := .int) (C := RX1) (T := TX1) (N := 10) hx hb hwd inlX1 tyX1 tyX1_ok nmX1 hown hK hP hD hS 0 rfl rfl 0 (by decide) (hwd _ kr12_9) (fun _ h9 => h9) rfl (by decide +kernel) rfl rfl (Nat.le_of_ble_eq_true rfl) dX1_copyFrom_5 (fun H locs hP hD hS => ?_)
  replace hP : va_P (dC, dI) vwCl [(a0, .inr (1, [.int i1, .ref a1, .ref a2, .ref a3, .ref a4, .ref a5, .ref a6, .ref a7, .ref a8, .ref a9])), (a1, .inl (cI, 10, .inl xF0)), (a2, .inl (cI, 10, .inl xF1)), (a3, .inl (cI, 10, .inl xF2)), (a4, .inl (cI, 10, .inl xF3)), (a5, .inl (cI, 10, .inl xF4)), (a6, .inl (cI, 10, .inl xF5)), (a7, .inl (cI, 10, .inl xF6)), (a8, .inl (cI, 10, .inl xF7)), (a9, .inl (cI, 210, .inl xF8)), (a10, .inr (1, [.int i1, .ref a11, .ref a12, .ref a13, .ref a14, .ref a15, .ref a16, .ref a17, .ref a18, .ref a19])), (a11, .inl (cI, 10, .inl xF9)), (a12, .inl (cI, 10, .inl xF10)), (a13, .inl (cI, 10, .inl xF11)), (a14, .inl (cI, 10, .inl xF12)), (a15, .inl (cI, 10, .inl xF13)), (a16, .inl (cI, 10, .inl xF14)), (a17, .inl (cI, 10, .inl xF15)), (a18, .inl (cI, 10, .inl xF16)), (a19, .inl (cI, 210, .inl xF17))] H := hP
  replace hD : va_D A [(a0, .inr (1, [.int i1, .ref a1, .ref a2, .ref a3, .ref a4, .ref a5, .ref a6, .ref a7, .ref a8, .ref a9])), (a1, .inl (cI, 10, .inl xF0)), (a2, .inl (cI, 10, .inl xF1)), (a3, .inl (cI, 10, .inl xF2)), (a4, .inl (cI, 10, .inl xF3)), (a5, .inl (cI, 10, .inl xF4)), (a6, .inl (cI, 10, .inl xF5)), (a7, .inl (cI, 10, .inl xF6)), (a8, .inl (cI, 10, .inl xF7)), (a9, .inl (cI, 210, .inl xF8)), (a10, .inr (1, [.int i1, .ref a11, .ref a12, .ref a13, .ref a14, .ref a15, .ref a16, .ref a17, .ref a18, .ref a19])), (a11, .inl (cI, 10, .inl xF9)), (a12, .inl (cI, 10, .inl xF10)), (a13, .inl (cI, 10, .inl xF11)), (a14, .inl (cI, 10, .inl xF12)), (a15, .inl (cI, 10, .inl xF13)), (a16, .inl (cI, 10, .inl xF14)), (a17, .inl (cI, 10, .inl xF15)), (a18, .inl (cI, 10, .inl xF16)), (a19, .inl (cI, 210, .inl xF17))] := hD
  refine lv_aload_n hx hb dX1_copyFrom_8 rfl (lv_at hl 1 rfl) ?_
  refine va_get (D := (dC, dI)) (ci := 1) (v := .ref a11) (C := RX1) (T := TX1) (N := 10) hx hb hwd inlX1 hown hK hP 10 rfl rfl 1 (by decide) (hwd _ kr12_14) (fun _ h9 => h9) rfl dX1_copyFrom_9 ?_
  refine lv_iconst (v := 0) hx hb dX1_copyFrom_12 (by decide) ?_
  refine lv_aload_n hx hb dX1_copyFrom_13 rfl (lv_at hl 0 rfl) ?_
  refine va_get (D := (dC, dI)) (ci := 1) (v := .ref a1) (C := RX1) (T := TX1) (N := 10) hx hb hwd inlX1 hown hK hP 0 rfl rfl 1 (by decide) (hwd _ kr12_14) (fun _ h9 => h9) rfl dX1_copyFrom_14 ?_
  refine lv_iconst (v := 0) hx hb dX1_copyFrom_17 (by decide) ?_
  refine lv_bipush (v := 10) hx hb dX1_copyFrom_18 (by decide) ?_
  refine va_copyi hx hb (by rw [hml]; exact hl.1.symm) hown (hwd _ kr46_18) (hwd _ kr27_6) (hwd _ kr27_5) (hwd _ kr6_6) hK hP hD hS 11 1 0 0 rfl rfl rfl rfl rfl (by decide) (by decide) (by decide) (by decide) (by decide) (fun _ _ => rfl) (Nat.le_of_ble_eq_true rfl) (Nat.le_of_ble_eq_true rfl) dX1_copyFrom_20 (fun H locs hP hD hS => ?_)
  obtain ⟨f1, ef1⟩ : ∃ f : Nat → Int32, f = va_cpy xF9 xF0 (0 : Int32).toNatClampNeg (0 : Int32).toNatClampNeg (10 : Int32).toNatClampNeg := ⟨_, rfl⟩
  replace hP : va_P (dC, dI) vwCl [(a0, .inr (1, [.int i1, .ref a1, .ref a2, .ref a3, .ref a4, .ref a5, .ref a6, .ref a7, .ref a8, .ref a9])), (a1, .inl (cI, 10, .inl f1)), (a2, .inl (cI, 10, .inl xF1)), (a3, .inl (cI, 10, .inl xF2)), (a4, .inl (cI, 10, .inl xF3)), (a5, .inl (cI, 10, .inl xF4)), (a6, .inl (cI, 10, .inl xF5)), (a7, .inl (cI, 10, .inl xF6)), (a8, .inl (cI, 10, .inl xF7)), (a9, .inl (cI, 210, .inl xF8)), (a10, .inr (1, [.int i1, .ref a11, .ref a12, .ref a13, .ref a14, .ref a15, .ref a16, .ref a17, .ref a18, .ref a19])), (a11, .inl (cI, 10, .inl xF9)), (a12, .inl (cI, 10, .inl xF10)), (a13, .inl (cI, 10, .inl xF11)), (a14, .inl (cI, 10, .inl xF12)), (a15, .inl (cI, 10, .inl xF13)), (a16, .inl (cI, 10, .inl xF14)), (a17, .inl (cI, 10, .inl xF15)), (a18, .inl (cI, 10, .inl xF16)), (a19, .inl (cI, 210, .inl xF17))] H := by rw [ef1]; exact hP
  replace hD : va_D A [(a0, .inr (1, [.int i1, .ref a1, .ref a2, .ref a3, .ref a4, .ref a5, .ref a6, .ref a7, .ref a8, .ref a9])), (a1, .inl (cI, 10, .inl f1)), (a2, .inl (cI, 10, .inl xF1)), (a3, .inl (cI, 10, .inl xF2)), (a4, .inl (cI, 10, .inl xF3)), (a5, .inl (cI, 10, .inl xF4)), (a6, .inl (cI, 10, .inl xF5)), (a7, .inl (cI, 10, .inl xF6)), (a8, .inl (cI, 10, .inl xF7)), (a9, .inl (cI, 210, .inl xF8)), (a10, .inr (1, [.int i1, .ref a11, .ref a12, .ref a13, .ref a14, .ref a15, .ref a16, .ref a17, .ref a18, .ref a19])), (a11, .inl (cI, 10, .inl xF9)), (a12, .inl (cI, 10, .inl xF10)), (a13, .inl (cI, 10, .inl xF11)), (a14, .inl (cI, 10, .inl xF12)), (a15, .inl (cI, 10, .inl xF13)), (a16, .inl (cI, 10, .inl xF14)), (a17, .inl (cI, 10, .inl xF15)), (a18, .inl (cI, 10, .inl xF16)), (a19, .inl (cI, 210, .inl xF17))] := by rw [ef1]; exact hD
  refine lv_aload_n hx hb dX1_copyFrom_23 rfl (lv_at hl 1 rfl) ?_
  refine va_get (D := (dC, dI)) (ci := 1) (v := .ref a12) (C := RX1) (T := TX1) (N := 10) hx hb hwd inlX1 hown hK hP 10 rfl rfl 2 (by decide) (hwd _ kr12_17) (fun _ h9 => h9) rfl dX1_copyFrom_24 ?_
  refine lv_iconst (v := 0) hx hb dX1_copyFrom_27 (by decide) ?_
  refine lv_aload_n hx hb dX1_copyFrom_28 rfl (lv_at hl 0 rfl) ?_
  refine va_get (D := (dC, dI)) (ci := 1) (v := .ref a2) (C := RX1) (T := TX1) (N := 10) hx hb hwd inlX1 hown hK hP 0 rfl rfl 2 (by decide) (hwd _ kr12_17) (fun _ h9 => h9) rfl dX1_copyFrom_29 ?_
  refine lv_iconst (v := 0) hx hb dX1_copyFrom_32 (by decide) ?_
  refine lv_bipush (v := 10) hx hb dX1_copyFrom_33 (by decide) ?_
  refine va_copyi hx hb (by rw [hml]; exact hl.1.symm) hown (hwd _ kr46_18) (hwd _ kr27_6) (hwd _ kr27_5) (hwd _ kr6_6) hK hP hD hS 12 2 0 0 rfl rfl rfl rfl rfl (by decide) (by decide) (by decide) (by decide) (by decide) (fun _ _ => rfl) (Nat.le_of_ble_eq_true rfl) (Nat.le_of_ble_eq_true rfl) dX1_copyFrom_35 (fun H locs hP hD hS => ?_)
  obtain ⟨f2, ef2⟩ : ∃ f : Nat → Int32, f = va_cpy xF10 xF1 (0 : Int32).toNatClampNeg (0 : Int32).toNatClampNeg (10 : Int32).toNatClampNeg := ⟨_, rfl⟩
  replace hP : va_P (dC, dI) vwCl [(a0, .inr (1, [.int i1, .ref a1, .ref a2, .ref a3, .ref a4, .ref a5, .ref a6, .ref a7, .ref a8, .ref a9])), (a1, .inl (cI, 10, .inl f1)), (a2, .inl (cI, 10, .inl f2)), (a3, .inl (cI, 10, .inl xF2)), (a4, .inl (cI, 10, .inl xF3)), (a5, .inl (cI, 10, .inl xF4)), (a6, .inl (cI, 10, .inl xF5)), (a7, .inl (cI, 10, .inl xF6)), (a8, .inl (cI, 10, .inl xF7)), (a9, .inl (cI, 210, .inl xF8)), (a10, .inr (1, [.int i1, .ref a11, .ref a12, .ref a13, .ref a14, .ref a15, .ref a16, .ref a17, .ref a18, .ref a19])), (a11, .inl (cI, 10, .inl xF9)), (a12, .inl (cI, 10, .inl xF10)), (a13, .inl (cI, 10, .inl xF11)), (a14, .inl (cI, 10, .inl xF12)), (a15, .inl (cI, 10, .inl xF13)), (a16, .inl (cI, 10, .inl xF14)), (a17, .inl (cI, 10, .inl xF15)), (a18, .inl (cI, 10, .inl xF16)), (a19, .inl (cI, 210, .inl xF17))] H := by rw [ef2]; exact hP
  replace hD : va_D A [(a0, .inr (1, [.int i1, .ref a1, .ref a2, .ref a3, .ref a4, .ref a5, .ref a6, .ref a7, .ref a8, .ref a9])), (a1, .inl (cI, 10, .inl f1)), (a2, .inl (cI, 10, .inl f2)), (a3, .inl (cI, 10, .inl xF2)), (a4, .inl (cI, 10, .inl xF3)), (a5, .inl (cI, 10, .inl xF4)), (a6, .inl (cI, 10, .inl xF5)), (a7, .inl (cI, 10, .inl xF6)), (a8, .inl (cI, 10, .inl xF7)), (a9, .inl (cI, 210, .inl xF8)), (a10, .inr (1, [.int i1, .ref a11, .ref a12, .ref a13, .ref a14, .ref a15, .ref a16, .ref a17, .ref a18, .ref a19])), (a11, .inl (cI, 10, .inl xF9)), (a12, .inl (cI, 10, .inl xF10)), (a13, .inl (cI, 10, .inl xF11)), (a14, .inl (cI, 10, .inl xF12)), (a15, .inl (cI, 10, .inl xF13)), (a16, .inl (cI, 10, .inl xF14)), (a17, .inl (cI, 10, .inl xF15)), (a18, .inl (cI, 10, .inl xF16)), (a19, .inl (cI, 210, .inl xF17))] := by rw [ef2]; exact hD
  refine lv_aload_n hx hb dX1_copyFrom_38 rfl (lv_at hl 1 rfl) ?_
  refine va_get (D := (dC, dI)) (ci := 1) (v := .ref a13) (C := RX1) (T := TX1) (N := 10) hx hb hwd inlX1 hown hK hP 10 rfl rfl 3 (by decide) (hwd _ kr12_20) (fun _ h9 => h9) rfl dX1_copyFrom_39 ?_
  refine lv_iconst (v := 0) hx hb dX1_copyFrom_42 (by decide) ?_
  refine lv_aload_n hx hb dX1_copyFrom_43 rfl (lv_at hl 0 rfl) ?_
  refine va_get (D := (dC, dI)) (ci := 1) (v := .ref a3) (C := RX1) (T := TX1) (N := 10) hx hb hwd inlX1 hown hK hP 0 rfl rfl 3 (by decide) (hwd _ kr12_20) (fun _ h9 => h9) rfl dX1_copyFrom_44 ?_
  refine lv_iconst (v := 0) hx hb dX1_copyFrom_47 (by decide) ?_
  refine lv_bipush (v := 10) hx hb dX1_copyFrom_48 (by decide) ?_
  refine va_copyi hx hb (by rw [hml]; exact hl.1.symm) hown (hwd _ kr46_18) (hwd _ kr27_6) (hwd _ kr27_5) (hwd _ kr6_6) hK hP hD hS 13 3 0 0 rfl rfl rfl rfl rfl (by decide) (by decide) (by decide) (by decide) (by decide) (fun _ _ => rfl) (Nat.le_of_ble_eq_true rfl) (Nat.le_of_ble_eq_true rfl) dX1_copyFrom_50 (fun H locs hP hD hS => ?_)
  obtain ⟨f3, ef3⟩ : ∃ f : Nat → Int32, f = va_cpy xF11 xF2 (0 : Int32).toNatClampNeg (0 : Int32).toNatClampNeg (10 : Int32).toNatClampNeg := ⟨_, rfl⟩
  have rf3 : rng f3 10 0 9 := by rw [ef3]; exact rng_cpyA p_3 (by decide)
  replace hP : va_P (dC, dI) vwCl [(a0, .inr (1, [.int i1, .ref a1, .ref a2, .ref a3, .ref a4, .ref a5, .ref a6, .ref a7, .ref a8, .ref a9])), (a1, .inl (cI, 10, .inl f1)), (a2, .inl (cI, 10, .inl f2)), (a3, .inl (cI, 10, .inl f3)), (a4, .inl (cI, 10, .inl xF3)), (a5, .inl (cI, 10, .inl xF4)), (a6, .inl (cI, 10, .inl xF5)), (a7, .inl (cI, 10, .inl xF6)), (a8, .inl (cI, 10, .inl xF7)), (a9, .inl (cI, 210, .inl xF8)), (a10, .inr (1, [.int i1, .ref a11, .ref a12, .ref a13, .ref a14, .ref a15, .ref a16, .ref a17, .ref a18, .ref a19])), (a11, .inl (cI, 10, .inl xF9)), (a12, .inl (cI, 10, .inl xF10)), (a13, .inl (cI, 10, .inl xF11)), (a14, .inl (cI, 10, .inl xF12)), (a15, .inl (cI, 10, .inl xF13)), (a16, .inl (cI, 10, .inl xF14)), (a17, .inl (cI, 10, .inl xF15)), (a18, .inl (cI, 10, .inl xF16)), (a19, .inl (cI, 210, .inl xF17))] H := by rw [ef3]; exact hP
  replace hD : va_D A [(a0, .inr (1, [.int i1, .ref a1, .ref a2, .ref a3, .ref a4, .ref a5, .ref a6, .ref a7, .ref a8, .ref a9])), (a1, .inl (cI, 10, .inl f1)), (a2, .inl (cI, 10, .inl f2)), (a3, .inl (cI, 10, .inl f3)), (a4, .inl (cI, 10, .inl xF3)), (a5, .inl (cI, 10, .inl xF4)), (a6, .inl (cI, 10, .inl xF5)), (a7, .inl (cI, 10, .inl xF6)), (a8, .inl (cI, 10, .inl xF7)), (a9, .inl (cI, 210, .inl xF8)), (a10, .inr (1, [.int i1, .ref a11, .ref a12, .ref a13, .ref a14, .ref a15, .ref a16, .ref a17, .ref a18, .ref a19])), (a11, .inl (cI, 10, .inl xF9)), (a12, .inl (cI, 10, .inl xF10)), (a13, .inl (cI, 10, .inl xF11)), (a14, .inl (cI, 10, .inl xF12)), (a15, .inl (cI, 10, .inl xF13)), (a16, .inl (cI, 10, .inl xF14)), (a17, .inl (cI, 10, .inl xF15)), (a18, .inl (cI, 10, .inl xF16)), (a19, .inl (cI, 210, .inl xF17))] := by rw [ef3]; exact hD
  refine lv_aload_n hx hb dX1_copyFrom_53 rfl (lv_at hl 1 rfl) ?_
  refine va_get (D := (dC, dI)) (ci := 1) (v := .ref a14) (C := RX1) (T := TX1) (N := 10) hx hb hwd inlX1 hown hK hP 10 rfl rfl 4 (by decide) (hwd _ kr12_22) (fun _ h9 => h9) rfl dX1_copyFrom_54 ?_
  refine lv_iconst (v := 0) hx hb dX1_copyFrom_57 (by decide) ?_
  refine lv_aload_n hx hb dX1_copyFrom_58 rfl (lv_at hl 0 rfl) ?_
  refine va_get (D := (dC, dI)) (ci := 1) (v := .ref a4) (C := RX1) (T := TX1) (N := 10) hx hb hwd inlX1 hown hK hP 0 rfl rfl 4 (by decide) (hwd _ kr12_22) (fun _ h9 => h9) rfl dX1_copyFrom_59 ?_
  refine lv_iconst (v := 0) hx hb dX1_copyFrom_62 (by decide) ?_
  refine lv_bipush (v := 10) hx hb dX1_copyFrom_63 (by decide) ?_
  refine va_copyi hx hb (by rw [hml]; exact hl.1.symm) hown (hwd _ kr46_18) (hwd _ kr27_6) (hwd _ kr27_5) (hwd _ kr6_6) hK hP hD hS 14 4 0 0 rfl rfl rfl rfl rfl (by decide) (by decide) (by decide) (by decide) (by decide) (fun _ _ => rfl) (Nat.le_of_ble_eq_true rfl) (Nat.le_of_ble_eq_true rfl) dX1_copyFrom_65 (fun H locs hP hD hS => ?_)
  obtain ⟨f4, ef4⟩ : ∃ f : Nat → Int32, f = va_cpy xF12 xF3 (0 : Int32).toNatClampNeg (0 : Int32).toNatClampNeg (10 : Int32).toNatClampNeg := ⟨_, rfl⟩
  replace hP : va_P (dC, dI) vwCl [(a0, .inr (1, [.int i1, .ref a1, .ref a2, .ref a3, .ref a4, .ref a5, .ref a6, .ref a7, .ref a8, .ref a9])), (a1, .inl (cI, 10, .inl f1)), (a2, .inl (cI, 10, .inl f2)), (a3, .inl (cI, 10, .inl f3)), (a4, .inl (cI, 10, .inl f4)), (a5, .inl (cI, 10, .inl xF4)), (a6, .inl (cI, 10, .inl xF5)), (a7, .inl (cI, 10, .inl xF6)), (a8, .inl (cI, 10, .inl xF7)), (a9, .inl (cI, 210, .inl xF8)), (a10, .inr (1, [.int i1, .ref a11, .ref a12, .ref a13, .ref a14, .ref a15, .ref a16, .ref a17, .ref a18, .ref a19])), (a11, .inl (cI, 10, .inl xF9)), (a12, .inl (cI, 10, .inl xF10)), (a13, .inl (cI, 10, .inl xF11)), (a14, .inl (cI, 10, .inl xF12)), (a15, .inl (cI, 10, .inl xF13)), (a16, .inl (cI, 10, .inl xF14)), (a17, .inl (cI, 10, .inl xF15)), (a18, .inl (cI, 10, .inl xF16)), (a19, .inl (cI, 210, .inl xF17))] H := by rw [ef4]; exact hP
  replace hD : va_D A [(a0, .inr (1, [.int i1, .ref a1, .ref a2, .ref a3, .ref a4, .ref a5, .ref a6, .ref a7, .ref a8, .ref a9])), (a1, .inl (cI, 10, .inl f1)), (a2, .inl (cI, 10, .inl f2)), (a3, .inl (cI, 10, .inl f3)), (a4, .inl (cI, 10, .inl f4)), (a5, .inl (cI, 10, .inl xF4)), (a6, .inl (cI, 10, .inl xF5)), (a7, .inl (cI, 10, .inl xF6)), (a8, .inl (cI, 10, .inl xF7)), (a9, .inl (cI, 210, .inl xF8)), (a10, .inr (1, [.int i1, .ref a11, .ref a12, .ref a13, .ref a14, .ref a15, .ref a16, .ref a17, .ref a18, .ref a19])), (a11, .inl (cI, 10, .inl xF9)), (a12, .inl (cI, 10, .inl xF10)), (a13, .inl (cI, 10, .inl xF11)), (a14, .inl (cI, 10, .inl xF12)), (a15, .inl (cI, 10, .inl xF13)), (a16, .inl (cI, 10, .inl xF14)), (a17, .inl (cI, 10, .inl xF15)), (a18, .inl (cI, 10, .inl xF16)), (a19, .inl (cI, 210, .inl xF17))] := by rw [ef4]; exact hD
  refine lv_aload_n hx hb dX1_copyFrom_68 rfl (lv_at hl 1 rfl) ?_
  refine va_get (D := (dC, dI)) (ci := 1) (v := .ref a15) (C := RX1) (T := TX1) (N := 10) hx hb hwd inlX1 hown hK hP 10 rfl rfl 5 (by decide) (hwd _ kr12_23) (fun _ h9 => h9) rfl dX1_copyFrom_69 ?_
  refine lv_iconst (v := 0) hx hb dX1_copyFrom_72 (by decide) ?_
  refine lv_aload_n hx hb dX1_copyFrom_73 rfl (lv_at hl 0 rfl) ?_
  refine va_get (D := (dC, dI)) (ci := 1) (v := .ref a5) (C := RX1) (T := TX1) (N := 10) hx hb hwd inlX1 hown hK hP 0 rfl rfl 5 (by decide) (hwd _ kr12_23) (fun _ h9 => h9) rfl dX1_copyFrom_74 ?_
  refine lv_iconst (v := 0) hx hb dX1_copyFrom_77 (by decide) ?_
  refine lv_bipush (v := 10) hx hb dX1_copyFrom_78 (by decide) ?_
  refine va_copyi hx hb (by rw [hml]; exact hl.1.symm) hown (hwd _ kr46_18) (hwd _ kr27_6) (hwd _ kr27_5) (hwd _ kr6_6) hK hP hD hS 15 5 0 0 rfl rfl rfl rfl rfl (by decide) (by decide) (by decide) (by decide) (by decide) (fun _ _ => rfl) (Nat.le_of_ble_eq_true rfl) (Nat.le_of_ble_eq_true rfl) dX1_copyFrom_80 (fun H locs hP hD hS => ?_)
  obtain ⟨f5, ef5⟩ : ∃ f : Nat → Int32, f = va_cpy xF13 xF4 (0 : Int32).toNatClampNeg (0 : Int32).toNatClampNeg (10 : Int32).toNatClampNeg := ⟨_, rfl⟩
  replace hP : va_P (dC, dI) vwCl [(a0, .inr (1, [.int i1, .ref a1, .ref a2, .ref a3, .ref a4, .ref a5, .ref a6, .ref a7, .ref a8, .ref a9])), (a1, .inl (cI, 10, .inl f1)), (a2, .inl (cI, 10, .inl f2)), (a3, .inl (cI, 10, .inl f3)), (a4, .inl (cI, 10, .inl f4)), (a5, .inl (cI, 10, .inl f5)), (a6, .inl (cI, 10, .inl xF5)), (a7, .inl (cI, 10, .inl xF6)), (a8, .inl (cI, 10, .inl xF7)), (a9, .inl (cI, 210, .inl xF8)), (a10, .inr (1, [.int i1, .ref a11, .ref a12, .ref a13, .ref a14, .ref a15, .ref a16, .ref a17, .ref a18, .ref a19])), (a11, .inl (cI, 10, .inl xF9)), (a12, .inl (cI, 10, .inl xF10)), (a13, .inl (cI, 10, .inl xF11)), (a14, .inl (cI, 10, .inl xF12)), (a15, .inl (cI, 10, .inl xF13)), (a16, .inl (cI, 10, .inl xF14)), (a17, .inl (cI, 10, .inl xF15)), (a18, .inl (cI, 10, .inl xF16)), (a19, .inl (cI, 210, .inl xF17))] H := by rw [ef5]; exact hP
  replace hD : va_D A [(a0, .inr (1, [.int i1, .ref a1, .ref a2, .ref a3, .ref a4, .ref a5, .ref a6, .ref a7, .ref a8, .ref a9])), (a1, .inl (cI, 10, .inl f1)), (a2, .inl (cI, 10, .inl f2)), (a3, .inl (cI, 10, .inl f3)), (a4, .inl (cI, 10, .inl f4)), (a5, .inl (cI, 10, .inl f5)), (a6, .inl (cI, 10, .inl xF5)), (a7, .inl (cI, 10, .inl xF6)), (a8, .inl (cI, 10, .inl xF7)), (a9, .inl (cI, 210, .inl xF8)), (a10, .inr (1, [.int i1, .ref a11, .ref a12, .ref a13, .ref a14, .ref a15, .ref a16, .ref a17, .ref a18, .ref a19])), (a11, .inl (cI, 10, .inl xF9)), (a12, .inl (cI, 10, .inl xF10)), (a13, .inl (cI, 10, .inl xF11)), (a14, .inl (cI, 10, .inl xF12)), (a15, .inl (cI, 10, .inl xF13)), (a16, .inl (cI, 10, .inl xF14)), (a17, .inl (cI, 10, .inl xF15)), (a18, .inl (cI, 10, .inl xF16)), (a19, .inl (cI, 210, .inl xF17))] := by rw [ef5]; exact hD
  refine lv_aload_n hx hb dX1_copyFrom_83 rfl (lv_at hl 1 rfl) ?_
  refine va_get (D := (dC, dI)) (ci := 1) (v := .ref a16) (C := RX1) (T := TX1) (N := 10) hx hb hwd inlX1 hown hK hP 10 rfl rfl 6 (by decide) (hwd _ kr13_1) (fun _ h9 => h9) rfl dX1_copyFrom_84 ?_
  refine lv_iconst (v := 0) hx hb dX1_copyFrom_87 (by decide) ?_
  refine lv_aload_n hx hb dX1_copyFrom_88 rfl (lv_at hl 0 rfl) ?_
  refine va_get (D := (dC, dI)) (ci := 1) (v := .ref a6) (C := RX1) (T := TX1) (N := 10) hx hb hwd inlX1 hown hK hP 0 rfl rfl 6 (by decide) (hwd _ kr13_1) (fun _ h9 => h9) rfl dX1_copyFrom_89 ?_
  refine lv_iconst (v := 0) hx hb dX1_copyFrom_92 (by decide) ?_
  refine lv_bipush (v := 10) hx hb dX1_copyFrom_93 (by decide) ?_
  refine va_copyi hx hb (by rw [hml]; exact hl.1.symm) hown (hwd _ kr46_18) (hwd _ kr27_6) (hwd _ kr27_5) (hwd _ kr6_6) hK hP hD hS 16 6 0 0 rfl rfl rfl rfl rfl (by decide) (by decide) (by decide) (by decide) (by decide) (fun _ _ => rfl) (Nat.le_of_ble_eq_true rfl) (Nat.le_of_ble_eq_true rfl) dX1_copyFrom_95 (fun H locs hP hD hS => ?_)
  obtain ⟨f6, ef6⟩ : ∃ f : Nat → Int32, f = va_cpy xF14 xF5 (0 : Int32).toNatClampNeg (0 : Int32).toNatClampNeg (10 : Int32).toNatClampNeg := ⟨_, rfl⟩
  replace hP : va_P (dC, dI) vwCl [(a0, .inr (1, [.int i1, .ref a1, .ref a2, .ref a3, .ref a4, .ref a5, .ref a6, .ref a7, .ref a8, .ref a9])), (a1, .inl (cI, 10, .inl f1)), (a2, .inl (cI, 10, .inl f2)), (a3, .inl (cI, 10, .inl f3)), (a4, .inl (cI, 10, .inl f4)), (a5, .inl (cI, 10, .inl f5)), (a6, .inl (cI, 10, .inl f6)), (a7, .inl (cI, 10, .inl xF6)), (a8, .inl (cI, 10, .inl xF7)), (a9, .inl (cI, 210, .inl xF8)), (a10, .inr (1, [.int i1, .ref a11, .ref a12, .ref a13, .ref a14, .ref a15, .ref a16, .ref a17, .ref a18, .ref a19])), (a11, .inl (cI, 10, .inl xF9)), (a12, .inl (cI, 10, .inl xF10)), (a13, .inl (cI, 10, .inl xF11)), (a14, .inl (cI, 10, .inl xF12)), (a15, .inl (cI, 10, .inl xF13)), (a16, .inl (cI, 10, .inl xF14)), (a17, .inl (cI, 10, .inl xF15)), (a18, .inl (cI, 10, .inl xF16)), (a19, .inl (cI, 210, .inl xF17))] H := by rw [ef6]; exact hP
  replace hD : va_D A [(a0, .inr (1, [.int i1, .ref a1, .ref a2, .ref a3, .ref a4, .ref a5, .ref a6, .ref a7, .ref a8, .ref a9])), (a1, .inl (cI, 10, .inl f1)), (a2, .inl (cI, 10, .inl f2)), (a3, .inl (cI, 10, .inl f3)), (a4, .inl (cI, 10, .inl f4)), (a5, .inl (cI, 10, .inl f5)), (a6, .inl (cI, 10, .inl f6)), (a7, .inl (cI, 10, .inl xF6)), (a8, .inl (cI, 10, .inl xF7)), (a9, .inl (cI, 210, .inl xF8)), (a10, .inr (1, [.int i1, .ref a11, .ref a12, .ref a13, .ref a14, .ref a15, .ref a16, .ref a17, .ref a18, .ref a19])), (a11, .inl (cI, 10, .inl xF9)), (a12, .inl (cI, 10, .inl xF10)), (a13, .inl (cI, 10, .inl xF11)), (a14, .inl (cI, 10, .inl xF12)), (a15, .inl (cI, 10, .inl xF13)), (a16, .inl (cI, 10, .inl xF14)), (a17, .inl (cI, 10, .inl xF15)), (a18, .inl (cI, 10, .inl xF16)), (a19, .inl (cI, 210, .inl xF17))] := by rw [ef6]; exact hD
  refine lv_aload_n hx hb dX1_copyFrom_98 rfl (lv_at hl 1 rfl) ?_
  refine va_get (D := (dC, dI)) (ci := 1) (v := .ref a17) (C := RX1) (T := TX1) (N := 10) hx hb hwd inlX1 hown hK hP 10 rfl rfl 7 (by decide) (hwd _ kr13_2) (fun _ h9 => h9) rfl dX1_copyFrom_99 ?_
  refine lv_iconst (v := 0) hx hb dX1_copyFrom_102 (by decide) ?_
  refine lv_aload_n hx hb dX1_copyFrom_103 rfl (lv_at hl 0 rfl) ?_
  refine va_get (D := (dC, dI)) (ci := 1) (v := .ref a7) (C := RX1) (T := TX1) (N := 10) hx hb hwd inlX1 hown hK hP 0 rfl rfl 7 (by decide) (hwd _ kr13_2) (fun _ h9 => h9) rfl dX1_copyFrom_104 ?_
  refine lv_iconst (v := 0) hx hb dX1_copyFrom_107 (by decide) ?_
  refine lv_bipush (v := 10) hx hb dX1_copyFrom_108 (by decide) ?_
  refine va_copyi hx hb (by rw [hml]; exact hl.1.symm) hown (hwd _ kr46_18) (hwd _ kr27_6) (hwd _ kr27_5) (hwd _ kr6_6) hK hP hD hS 17 7 0 0 rfl rfl rfl rfl rfl (by decide) (by decide) (by decide) (by decide) (by decide) (fun _ _ => rfl) (Nat.le_of_ble_eq_true rfl) (Nat.le_of_ble_eq_true rfl) dX1_copyFrom_110 (fun H locs hP hD hS => ?_)
  obtain ⟨f7, ef7⟩ : ∃ f : Nat → Int32, f = va_cpy xF15 xF6 (0 : Int32).toNatClampNeg (0 : Int32).toNatClampNeg (10 : Int32).toNatClampNeg := ⟨_, rfl⟩
  replace hP : va_P (dC, dI) vwCl [(a0, .inr (1, [.int i1, .ref a1, .ref a2, .ref a3, .ref a4, .ref a5, .ref a6, .ref a7, .ref a8, .ref a9])), (a1, .inl (cI, 10, .inl f1)), (a2, .inl (cI, 10, .inl f2)), (a3, .inl (cI, 10, .inl f3)), (a4, .inl (cI, 10, .inl f4)), (a5, .inl (cI, 10, .inl f5)), (a6, .inl (cI, 10, .inl f6)), (a7, .inl (cI, 10, .inl f7)), (a8, .inl (cI, 10, .inl xF7)), (a9, .inl (cI, 210, .inl xF8)), (a10, .inr (1, [.int i1, .ref a11, .ref a12, .ref a13, .ref a14, .ref a15, .ref a16, .ref a17, .ref a18, .ref a19])), (a11, .inl (cI, 10, .inl xF9)), (a12, .inl (cI, 10, .inl xF10)), (a13, .inl (cI, 10, .inl xF11)), (a14, .inl (cI, 10, .inl xF12)), (a15, .inl (cI, 10, .inl xF13)), (a16, .inl (cI, 10, .inl xF14)), (a17, .inl (cI, 10, .inl xF15)), (a18, .inl (cI, 10, .inl xF16)), (a19, .inl (cI, 210, .inl xF17))] H := by rw [ef7]; exact hP
  replace hD : va_D A [(a0, .inr (1, [.int i1, .ref a1, .ref a2, .ref a3, .ref a4, .ref a5, .ref a6, .ref a7, .ref a8, .ref a9])), (a1, .inl (cI, 10, .inl f1)), (a2, .inl (cI, 10, .inl f2)), (a3, .inl (cI, 10, .inl f3)), (a4, .inl (cI, 10, .inl f4)), (a5, .inl (cI, 10, .inl f5)), (a6, .inl (cI, 10, .inl f6)), (a7, .inl (cI, 10, .inl f7)), (a8, .inl (cI, 10, .inl xF7)), (a9, .inl (cI, 210, .inl xF8)), (a10, .inr (1, [.int i1, .ref a11, .ref a12, .ref a13, .ref a14, .ref a15, .ref a16, .ref a17, .ref a18, .ref a19])), (a11, .inl (cI, 10, .inl xF9)), (a12, .inl (cI, 10, .inl xF10)), (a13, .inl (cI, 10, .inl xF11)), (a14, .inl (cI, 10, .inl xF12)), (a15, .inl (cI, 10, .inl xF13)), (a16, .inl (cI, 10, .inl xF14)), (a17, .inl (cI, 10, .inl xF15)), (a18, .inl (cI, 10, .inl xF16)), (a19, .inl (cI, 210, .inl xF17))] := by rw [ef7]; exact hD
  refine lv_aload_n hx hb dX1_copyFrom_113 rfl (lv_at hl 1 rfl) ?_
  refine va_get (D := (dC, dI)) (ci := 1) (v := .ref a18) (C := RX1) (T := TX1) (N := 10) hx hb hwd inlX1 hown hK hP 10 rfl rfl 8 (by decide) (hwd _ kr13_5) (fun _ h9 => h9) rfl dX1_copyFrom_114 ?_
  refine lv_iconst (v := 0) hx hb dX1_copyFrom_117 (by decide) ?_
  refine lv_aload_n hx hb dX1_copyFrom_118 rfl (lv_at hl 0 rfl) ?_
  refine va_get (D := (dC, dI)) (ci := 1) (v := .ref a8) (C := RX1) (T := TX1) (N := 10) hx hb hwd inlX1 hown hK hP 0 rfl rfl 8 (by decide) (hwd _ kr13_5) (fun _ h9 => h9) rfl dX1_copyFrom_119 ?_
  refine lv_iconst (v := 0) hx hb dX1_copyFrom_122 (by decide) ?_
  refine lv_bipush (v := 10) hx hb dX1_copyFrom_123 (by decide) ?_
  refine va_copyi hx hb (by rw [hml]; exact hl.1.symm) hown (hwd _ kr46_18) (hwd _ kr27_6) (hwd _ kr27_5) (hwd _ kr6_6) hK hP hD hS 18 8 0 0 rfl rfl rfl rfl rfl (by decide) (by decide) (by decide) (by decide) (by decide) (fun _ _ => rfl) (Nat.le_of_ble_eq_true rfl) (Nat.le_of_ble_eq_true rfl) dX1_copyFrom_125 (fun H locs hP hD hS => ?_)
  obtain ⟨f8, ef8⟩ : ∃ f : Nat → Int32, f = va_cpy xF16 xF7 (0 : Int32).toNatClampNeg (0 : Int32).toNatClampNeg (10 : Int32).toNatClampNeg := ⟨_, rfl⟩
  replace hP : va_P (dC, dI) vwCl [(a0, .inr (1, [.int i1, .ref a1, .ref a2, .ref a3, .ref a4, .ref a5, .ref a6, .ref a7, .ref a8, .ref a9])), (a1, .inl (cI, 10, .inl f1)), (a2, .inl (cI, 10, .inl f2)), (a3, .inl (cI, 10, .inl f3)), (a4, .inl (cI, 10, .inl f4)), (a5, .inl (cI, 10, .inl f5)), (a6, .inl (cI, 10, .inl f6)), (a7, .inl (cI, 10, .inl f7)), (a8, .inl (cI, 10, .inl f8)), (a9, .inl (cI, 210, .inl xF8)), (a10, .inr (1, [.int i1, .ref a11, .ref a12, .ref a13, .ref a14, .ref a15, .ref a16, .ref a17, .ref a18, .ref a19])), (a11, .inl (cI, 10, .inl xF9)), (a12, .inl (cI, 10, .inl xF10)), (a13, .inl (cI, 10, .inl xF11)), (a14, .inl (cI, 10, .inl xF12)), (a15, .inl (cI, 10, .inl xF13)), (a16, .inl (cI, 10, .inl xF14)), (a17, .inl (cI, 10, .inl xF15)), (a18, .inl (cI, 10, .inl xF16)), (a19, .inl (cI, 210, .inl xF17))] H := by rw [ef8]; exact hP
  replace hD : va_D A [(a0, .inr (1, [.int i1, .ref a1, .ref a2, .ref a3, .ref a4, .ref a5, .ref a6, .ref a7, .ref a8, .ref a9])), (a1, .inl (cI, 10, .inl f1)), (a2, .inl (cI, 10, .inl f2)), (a3, .inl (cI, 10, .inl f3)), (a4, .inl (cI, 10, .inl f4)), (a5, .inl (cI, 10, .inl f5)), (a6, .inl (cI, 10, .inl f6)), (a7, .inl (cI, 10, .inl f7)), (a8, .inl (cI, 10, .inl f8)), (a9, .inl (cI, 210, .inl xF8)), (a10, .inr (1, [.int i1, .ref a11, .ref a12, .ref a13, .ref a14, .ref a15, .ref a16, .ref a17, .ref a18, .ref a19])), (a11, .inl (cI, 10, .inl xF9)), (a12, .inl (cI, 10, .inl xF10)), (a13, .inl (cI, 10, .inl xF11)), (a14, .inl (cI, 10, .inl xF12)), (a15, .inl (cI, 10, .inl xF13)), (a16, .inl (cI, 10, .inl xF14)), (a17, .inl (cI, 10, .inl xF15)), (a18, .inl (cI, 10, .inl xF16)), (a19, .inl (cI, 210, .inl xF17))] := by rw [ef8]; exact hD
  refine lv_aload_n hx hb dX1_copyFrom_128 rfl (lv_at hl 1 rfl) ?_
  refine va_get (D := (dC, dI)) (ci := 1) (v := .ref a19) (C := RX1) (T := TX1) (N := 10) hx hb hwd inlX1 hown hK hP 10 rfl rfl 9 (by decide) (hwd _ kr13_7) (fun _ h9 => h9) rfl dX1_copyFrom_129 ?_
  refine lv_iconst (v := 0) hx hb dX1_copyFrom_132 (by decide) ?_
  refine lv_aload_n hx hb dX1_copyFrom_133 rfl (lv_at hl 0 rfl) ?_
  refine va_get (D := (dC, dI)) (ci := 1) (v := .ref a9) (C := RX1) (T := TX1) (N := 10) hx hb hwd inlX1 hown hK hP 0 rfl rfl 9 (by decide) (hwd _ kr13_7) (fun _ h9 => h9) rfl dX1_copyFrom_134 ?_
  refine lv_iconst (v := 0) hx hb dX1_copyFrom_137 (by decide) ?_
  refine lv_sipush (v := 210) hx hb dX1_copyFrom_138 (by decide) ?_
  refine va_copyi hx hb (by rw [hml]; exact hl.1.symm) hown (hwd _ kr46_18) (hwd _ kr27_6) (hwd _ kr27_5) (hwd _ kr6_6) hK hP hD hS 19 9 0 0 rfl rfl rfl rfl rfl (by decide) (by decide) (by decide) (by decide) (by decide) (fun _ _ => rfl) (Nat.le_of_ble_eq_true rfl) (Nat.le_of_ble_eq_true rfl) dX1_copyFrom_141 (fun H locs hP hD hS => ?_)
  obtain ⟨f9, ef9⟩ : ∃ f : Nat → Int32, f = va_cpy xF17 xF8 (0 : Int32).toNatClampNeg (0 : Int32).toNatClampNeg (210 : Int32).toNatClampNeg := ⟨_, rfl⟩
  replace hP : va_P (dC, dI) vwCl [(a0, .inr (1, [.int i1, .ref a1, .ref a2, .ref a3, .ref a4, .ref a5, .ref a6, .ref a7, .ref a8, .ref a9])), (a1, .inl (cI, 10, .inl f1)), (a2, .inl (cI, 10, .inl f2)), (a3, .inl (cI, 10, .inl f3)), (a4, .inl (cI, 10, .inl f4)), (a5, .inl (cI, 10, .inl f5)), (a6, .inl (cI, 10, .inl f6)), (a7, .inl (cI, 10, .inl f7)), (a8, .inl (cI, 10, .inl f8)), (a9, .inl (cI, 210, .inl f9)), (a10, .inr (1, [.int i1, .ref a11, .ref a12, .ref a13, .ref a14, .ref a15, .ref a16, .ref a17, .ref a18, .ref a19])), (a11, .inl (cI, 10, .inl xF9)), (a12, .inl (cI, 10, .inl xF10)), (a13, .inl (cI, 10, .inl xF11)), (a14, .inl (cI, 10, .inl xF12)), (a15, .inl (cI, 10, .inl xF13)), (a16, .inl (cI, 10, .inl xF14)), (a17, .inl (cI, 10, .inl xF15)), (a18, .inl (cI, 10, .inl xF16)), (a19, .inl (cI, 210, .inl xF17))] H := by rw [ef9]; exact hP
  replace hD : va_D A [(a0, .inr (1, [.int i1, .ref a1, .ref a2, .ref a3, .ref a4, .ref a5, .ref a6, .ref a7, .ref a8, .ref a9])), (a1, .inl (cI, 10, .inl f1)), (a2, .inl (cI, 10, .inl f2)), (a3, .inl (cI, 10, .inl f3)), (a4, .inl (cI, 10, .inl f4)), (a5, .inl (cI, 10, .inl f5)), (a6, .inl (cI, 10, .inl f6)), (a7, .inl (cI, 10, .inl f7)), (a8, .inl (cI, 10, .inl f8)), (a9, .inl (cI, 210, .inl f9)), (a10, .inr (1, [.int i1, .ref a11, .ref a12, .ref a13, .ref a14, .ref a15, .ref a16, .ref a17, .ref a18, .ref a19])), (a11, .inl (cI, 10, .inl xF9)), (a12, .inl (cI, 10, .inl xF10)), (a13, .inl (cI, 10, .inl xF11)), (a14, .inl (cI, 10, .inl xF12)), (a15, .inl (cI, 10, .inl xF13)), (a16, .inl (cI, 10, .inl xF14)), (a17, .inl (cI, 10, .inl xF15)), (a18, .inl (cI, 10, .inl xF16)), (a19, .inl (cI, 210, .inl xF17))] := by rw [ef9]; exact hD
  have hP9 := hP.sub (ws' := [(a0, .inr (1, [.int i1, .ref a1, .ref a2, .ref a3, .ref a4, .ref a5, .ref a6, .ref a7, .ref a8, .ref a9])), (a1, .inl (cI, 10, .inl f1)), (a2, .inl (cI, 10, .inl f2)), (a3, .inl (cI, 10, .inl f3)), (a4, .inl (cI, 10, .inl f4)), (a5, .inl (cI, 10, .inl f5)), (a6, .inl (cI, 10, .inl f6)), (a7, .inl (cI, 10, .inl f7)), (a8, .inl (cI, 10, .inl f8)), (a9, .inl (cI, 210, .inl f9)), (a10, .inr (1, [.int i1, .ref a11, .ref a12, .ref a13, .ref a14, .ref a15, .ref a16, .ref a17, .ref a18, .ref a19])), (a11, .inl (cI, 10, .inl xF9)), (a12, .inl (cI, 10, .inl xF10)), (a13, .inl (cI, 10, .inl xF11)), (a14, .inl (cI, 10, .inl xF12)), (a15, .inl (cI, 10, .inl xF13)), (a16, .inl (cI, 10, .inl xF14)), (a17, .inl (cI, 10, .inl xF15)), (a18, .inl (cI, 10, .inl xF16)), (a19, .inl (cI, 210, .inl xF17))]) [0, 1, 2, 3, 4, 5, 6, 7, 8, 9, 10, 11, 12, 13, 14, 15, 16, 17, 18, 19] rfl
  have hD9 := hD.sub (ws' := [(a0, .inr (1, [.int i1, .ref a1, .ref a2, .ref a3, .ref a4, .ref a5, .ref a6, .ref a7, .ref a8, .ref a9])), (a1, .inl (cI, 10, .inl f1)), (a2, .inl (cI, 10, .inl f2)), (a3, .inl (cI, 10, .inl f3)), (a4, .inl (cI, 10, .inl f4)), (a5, .inl (cI, 10, .inl f5)), (a6, .inl (cI, 10, .inl f6)), (a7, .inl (cI, 10, .inl f7)), (a8, .inl (cI, 10, .inl f8)), (a9, .inl (cI, 210, .inl f9)), (a10, .inr (1, [.int i1, .ref a11, .ref a12, .ref a13, .ref a14, .ref a15, .ref a16, .ref a17, .ref a18, .ref a19])), (a11, .inl (cI, 10, .inl xF9)), (a12, .inl (cI, 10, .inl xF10)), (a13, .inl (cI, 10, .inl xF11)), (a14, .inl (cI, 10, .inl xF12)), (a15, .inl (cI, 10, .inl xF13)), (a16, .inl (cI, 10, .inl xF14)), (a17, .inl (cI, 10, .inl xF15)), (a18, .inl (cI, 10, .inl xF16)), (a19, .inl (cI, 210, .inl xF17))]) [0, 1, 2, 3, 4, 5, 6, 7, 8, 9, 10, 11, 12, 13, 14, 15, 16, 17, 18, 19] (by decide) rfl
  rw [hQ]
  exact W.vret hx hb hr (fun t ht hW => ⟨⟨(pickG 0 [i1], pickG (fun _ => 0) [f1, f2, f3, f4, f5, f6, f7, f8, f9], pickG (fun _ => 0) []), rfl, ⟨(show (0 : Int) ≤ i1.toInt ∧ i1.toInt ≤ 10 from p_2), (show rng f3 10 0 9 from rf3), trivial⟩, (by rw [ht]; exact hP9), hD9⟩, hS.F ht⟩) hS.2.2 dX1_copyFrom_144
theorem dX4_copyFrom_0 : decode cX4_copyFrom 0 = .ok (.aload_n 0, 1) := by decide +kernel
theorem dX4_copyFrom_1 : decode cX4_copyFrom 1 = .ok (.aload_n 1, 1) := by decide +kernel
theorem dX4_copyFrom_2 : decode cX4_copyFrom 2 = .ok (.getfield 24, 3) := by decide +kernel
theorem dX4_copyFrom_5 : decode cX4_copyFrom 5 = .ok (.putfield 24, 3) := by decide +kernel
theorem dX4_copyFrom_8 : decode cX4_copyFrom 8 = .ok (.aload_n 1, 1) := by decide +kernel
theorem dX4_copyFrom_9 : decode cX4_copyFrom 9 = .ok (.getfield 9, 3) := by decide +kernel
theorem dX4_copyFrom_12 : decode cX4_copyFrom 12 = .ok (.iconst 0, 1) := by decide +kernel
theorem dX4_copyFrom_13 : decode cX4_copyFrom 13 = .ok (.aload_n 0, 1) := by decide +kernel
theorem dX4_copyFrom_14 : decode cX4_copyFrom 14 = .ok (.getfield 9, 3) := by decide +kernel
theorem dX4_copyFrom_17 : decode cX4_copyFrom 17 = .ok (.iconst 0, 1) := by decide +kernel
theorem dX4_copyFrom_18 : decode cX4_copyFrom 18 = .ok (.iconst 4, 1) := by decide +kernel
theorem dX4_copyFrom_19 : decode cX4_copyFrom 19 = .ok (.invokestatic 48, 3) := by decide +kernel
theorem dX4_copyFrom_22 : decode cX4_copyFrom 22 = .ok (.aload_n 1, 1) := by decide +kernel
theorem dX4_copyFrom_23 : decode cX4_copyFrom 23 = .ok (.getfield 15, 3) := by decide +kernel
theorem dX4_copyFrom_26 : decode cX4_copyFrom 26 = .ok (.iconst 0, 1) := by decide +kernel
theorem dX4_copyFrom_27 : decode cX4_copyFrom 27 = .ok (.aload_n 0, 1) := by decide +kernel
theorem dX4_copyFrom_28 : decode cX4_copyFrom 28 = .ok (.getfield 15, 3) := by decide +kernel
theorem dX4_copyFrom_31 : decode cX4_copyFrom 31 = .ok (.iconst 0, 1) := by decide +kernel
theorem dX4_copyFrom_32 : decode cX4_copyFrom 32 = .ok (.iconst 4, 1) := by decide +kernel
theorem dX4_copyFrom_33 : decode cX4_copyFrom 33 = .ok (.invokestatic 48, 3) := by decide +kernel
theorem dX4_copyFrom_36 : decode cX4_copyFrom 36 = .ok (.aload_n 1, 1) := by decide +kernel
theorem dX4_copyFrom_37 : decode cX4_copyFrom 37 = .ok (.getfield 18, 3) := by decide +kernel
theorem dX4_copyFrom_40 : decode cX4_copyFrom 40 = .ok (.iconst 0, 1) := by decide +kernel
theorem dX4_copyFrom_41 : decode cX4_copyFrom 41 = .ok (.aload_n 0, 1) := by decide +kernel
theorem dX4_copyFrom_42 : decode cX4_copyFrom 42 = .ok (.getfield 18, 3) := by decide +kernel
theorem dX4_copyFrom_45 : decode cX4_copyFrom 45 = .ok (.iconst 0, 1) := by decide +kernel
theorem dX4_copyFrom_46 : decode cX4_copyFrom 46 = .ok (.iconst 4, 1) := by decide +kernel
theorem dX4_copyFrom_47 : decode cX4_copyFrom 47 = .ok (.invokestatic 48, 3) := by decide +kernel
theorem dX4_copyFrom_50 : decode cX4_copyFrom 50 = .ok (.aload_n 1, 1) := by decide +kernel
theorem dX4_copyFrom_51 : decode cX4_copyFrom 51 = .ok (.getfield 21, 3) := by decide +kernel
theorem dX4_copyFrom_54 : decode cX4_copyFrom 54 = .ok (.iconst 0, 1) := by decide +kernel
theorem dX4_copyFrom_55 : decode cX4_copyFrom 55 = .ok (.aload_n 0, 1) := by decide +kernel
theorem dX4_copyFrom_56 : decode cX4_copyFrom 56 = .ok (.getfield 21, 3) := by decide +kernel
theorem dX4_copyFrom_59 : decode cX4_copyFrom 59 = .ok (.iconst 0, 1) := by decide +kernel
theorem dX4_copyFrom_60 : decode cX4_copyFrom 60 = .ok (.iconst 4, 1) := by decide +kernel
theorem dX4_copyFrom_61 : decode cX4_copyFrom 61 = .ok (.invokestatic 48, 3) := by decide +kernel
theorem dX4_copyFrom_64 : decode cX4_copyFrom 64 = .ok (.return_, 1) := by decide +kernel
set_option maxHeartbeats 4000000 in
set_option maxRecDepth 100000 in
theorem s_X4_copyFrom (l : Launch) (dC : Nat → ClassId) (dI : Nat → Nat → Nat) (cI cZ cB cJ cM cG : ClassId) (a0 a1 a2 a3 a4 a5 a6 a7 a8 a9 : Nat) (i0 i1 : Int32) (xF0 xF1 xF2 xF3 xF4 xF5 xF6 xF7 : Nat → Int32) (sz : Nat) (p_0 : (0 : Int) ≤ i0.toInt ∧ i0.toInt ≤ 4) (p_1 : (0 : Int) ≤ i1.toInt ∧ i1.toInt ≤ 4) : Met l yX4_copyFrom (kw yX4_copyFrom cX4_copyFrom 2 none) ({ frames := 1, cells := 0, slots := 0, locals := 64 } : Room) (va_Pc [.ref a0, .ref a5] (kPre dC dI [(cI, .int), (cZ, .boolean), (cB, .byte), (cJ, .long), (cM, .object RX2), (cG, .array .int)] [(a0, .inr (4, [.int i0, .ref a1, .ref a2, .ref a3, .ref a4])), (a1, .inl (cI, 4, .inl xF0)), (a2, .inl (cI, 4, .inl xF1)), (a3, .inl (cI, 4, .inl xF2)), (a4, .inl (cI, 4, .inl xF3)), (a5, .inr (4, [.int i1, .ref a6, .ref a7, .ref a8, .ref a9])), (a6, .inl (cI, 4, .inl xF4)), (a7, .inl (cI, 4, .inl xF5)), (a8, .inl (cI, 4, .inl xF6)), (a9, .inl (cI, 4, .inl xF7))] sz)) (va_Qv (fun (u9 : (Nat → Int32) × (Nat → Nat → Int32) × (Nat → Nat → Int64)) => ((0 : Int) ≤ (u9.1 0).toInt ∧ (u9.1 0).toInt ≤ 4) ∧ True) (fun u9 t => va_P (dC, dI) vwCl [(a0, .inr (4, [.int (u9.1 0), .ref a1, .ref a2, .ref a3, .ref a4])), (a1, .inl (cI, 4, .inl (u9.2.1 0))), (a2, .inl (cI, 4, .inl (u9.2.1 1))), (a3, .inl (cI, 4, .inl (u9.2.1 2))), (a4, .inl (cI, 4, .inl (u9.2.1 3))), (a5, .inr (4, [.int i1, .ref a6, .ref a7, .ref a8, .ref a9])), (a6, .inl (cI, 4, .inl xF4)), (a7, .inl (cI, 4, .inl xF5)), (a8, .inl (cI, 4, .inl xF6)), (a9, .inl (cI, 4, .inl xF7))] t.heap ∧ va_D (va_A [(a0, .inr (4, [.int i0, .ref a1, .ref a2, .ref a3, .ref a4])), (a1, .inl (cI, 4, .inl xF0)), (a2, .inl (cI, 4, .inl xF1)), (a3, .inl (cI, 4, .inl xF2)), (a4, .inl (cI, 4, .inl xF3)), (a5, .inr (4, [.int i1, .ref a6, .ref a7, .ref a8, .ref a9])), (a6, .inl (cI, 4, .inl xF4)), (a7, .inl (cI, 4, .inl xF5)), (a8, .inl (cI, 4, .inl xF6)), (a9, .inl (cI, 4, .inl xF7))] sz) [(a0, .inr (4, [.int (u9.1 0), .ref a1, .ref a2, .ref a3, .ref a4])), (a1, .inl (cI, 4, .inl (u9.2.1 0))), (a2, .inl (cI, 4, .inl (u9.2.1 1))), (a3, .inl (cI, 4, .inl (u9.2.1 2))), (a4, .inl (cI, 4, .inl (u9.2.1 3))), (a5, .inr (4, [.int i1, .ref a6, .ref a7, .ref a8, .ref a9])), (a6, .inl (cI, 4, .inl xF4)), (a7, .inl (cI, 4, .inl xF5)), (a8, .inl (cI, 4, .inl xF6)), (a9, .inl (cI, 4, .inl xF7))]) (va_A [(a0, .inr (4, [.int i0, .ref a1, .ref a2, .ref a3, .ref a4])), (a1, .inl (cI, 4, .inl xF0)), (a2, .inl (cI, 4, .inl xF1)), (a3, .inl (cI, 4, .inl xF2)), (a4, .inl (cI, 4, .inl xF3)), (a5, .inr (4, [.int i1, .ref a6, .ref a7, .ref a8, .ref a9])), (a6, .inl (cI, 4, .inl xF4)), (a7, .inl (cI, 4, .inl xF5)), (a8, .inl (cI, 4, .inl xF6)), (a9, .inl (cI, 4, .inl xF7))] sz)) 0 0 (va_A [(a0, .inr (4, [.int i0, .ref a1, .ref a2, .ref a3, .ref a4])), (a1, .inl (cI, 4, .inl xF0)), (a2, .inl (cI, 4, .inl xF1)), (a3, .inl (cI, 4, .inl xF2)), (a4, .inl (cI, 4, .inl xF3)), (a5, .inr (4, [.int i1, .ref a6, .ref a7, .ref a8, .ref a9])), (a6, .inl (cI, 4, .inl xF4)), (a7, .inl (cI, 4, .inl xF5)), (a8, .inl (cI, 4, .inl xF6)), (a9, .inl (cI, 4, .inl xF7))] sz) := by
  refine kEnter (by decide) (Nat.le_of_ble_eq_true rfl) ?_
  intro p e s m below meth c ls hx hb hr hml hown hlocks hin hwd hsz hP hK hD hl
  subst hsz
  generalize hAe : va_A [(a0, .inr (4, [.int i0, .ref a1, .ref a2, .ref a3, .ref a4])), (a1, .inl (cI, 4, .inl xF0)), (a2, .inl (cI, 4, .inl xF1)), (a3, .inl (cI, 4, .inl xF2)), (a4, .inl (cI, 4, .inl xF3)), (a5, .inr (4, [.int i1, .ref a6, .ref a7, .ref a8, .ref a9])), (a6, .inl (cI, 4, .inl xF4)), (a7, .inl (cI, 4, .inl xF5)), (a8, .inl (cI, 4, .inl xF6)), (a9, .inl (cI, 4, .inl xF7))] s.heap.size = A at hD ⊢
  have hA : ∀ q : Nat, s.heap.size ≤ q → A q := fun q h => by rw [← hAe]; exact Or.inr h
  have hS : va_S A s.heap s.heap [] := va_S.rf
  have hl : lv_has ls 2 [(0, .ref a0), (1, .ref a5)] := hl
  obtain ⟨Q, hQ⟩ : ∃ Q, Q = MQ below (va_Qv (fun (u9 : (Nat → Int32) × (Nat → Nat → Int32) × (Nat → Nat → Int64)) => ((0 : Int) ≤ (u9.1 0).toInt ∧ (u9.1 0).toInt ≤ 4) ∧ True) (fun u9 t => va_P (dC, dI) vwCl [(a0, .inr (4, [.int (u9.1 0), .ref a1, .ref a2, .ref a3, .ref a4])), (a1, .inl (cI, 4, .inl (u9.2.1 0))), (a2, .inl (cI, 4, .inl (u9.2.1 1))), (a3, .inl (cI, 4, .inl (u9.2.1 2))), (a4, .inl (cI, 4, .inl (u9.2.1 3))), (a5, .inr (4, [.int i1, .ref a6, .ref a7, .ref a8, .ref a9])), (a6, .inl (cI, 4, .inl xF4)), (a7, .inl (cI, 4, .inl xF5)), (a8, .inl (cI, 4, .inl xF6)), (a9, .inl (cI, 4, .inl xF7))] t.heap ∧ va_D A [(a0, .inr (4, [.int (u9.1 0), .ref a1, .ref a2, .ref a3, .ref a4])), (a1, .inl (cI, 4, .inl (u9.2.1 0))), (a2, .inl (cI, 4, .inl (u9.2.1 1))), (a3, .inl (cI, 4, .inl (u9.2.1 2))), (a4, .inl (cI, 4, .inl (u9.2.1 3))), (a5, .inr (4, [.int i1, .ref a6, .ref a7, .ref a8, .ref a9])), (a6, .inl (cI, 4, .inl xF4)), (a7, .inl (cI, 4, .inl xF5)), (a8, .inl (cI, 4, .inl xF6)), (a9, .inl (cI, 4, .inl xF7))]) A) ([.ref a0, .ref a5] : List Value).toArray s 0 0 A := ⟨_, rfl⟩
  rw [← hQ]
  refine lv_aload_n hx hb dX4_copyFrom_0 rfl (lv_at hl 0 rfl) ?_
  refine lv_aload_n hx hb dX4_copyFrom_1 rfl (lv_at hl 1 rfl) ?_
  refine va_get (D := (dC, dI)) (ci := 4) (v := .int i1) (C := RX4) (T := TX4) (N := 5) hx hb hwd inlX4 hown hK hP 5 rfl rfl 0 (by decide) (hwd _ kr13_13) (fun _ h9 => h9) rfl dX4_copyFrom_2 ?_
  refine va_put (D := (dC, dI)) (ci := 4) (v := .int i1) (ty := .int) (C := RX4) (T := TX4) (N := 5) hx hb hwd inlX4 tyX4 tyX4_ok nmX4 hown hK hP hD hS 0 rfl rfl 0 (by decide) (hwd _ kr13_13) (fun _ h9 => h9) rfl (by decide +kernel) rfl rfl (Nat.le_of_ble_eq_true rfl) dX4_copyFrom_5 (fun H locs hP hD hS => ?_)
  replace hP : va_P (dC, dI) vwCl [(a0, .inr (4, [.int i1, .ref a1, .ref a2, .ref a3, .ref a4])), (a1, .inl (cI, 4, .inl xF0)), (a2, .inl (cI, 4, .inl xF1)), (a3, .inl (cI, 4, .inl xF2)), (a4, .inl (cI, 4, .inl xF3)), (a5, .inr (4, [.int i1, .ref a6, .ref a7, .ref a8, .ref a9])), (a6, .inl (cI, 4, .inl xF4)), (a7, .inl (cI, 4, .inl xF5)), (a8, .inl (cI, 4, .inl xF6)), (a9, .inl (cI, 4, .inl xF7))] H := hP
  replace hD : va_D A [(a0, .inr (4, [.int i1, .ref a1, .ref a2, .ref a3, .ref a4])), (a1, .inl (cI, 4, .inl xF0)), (a2, .inl (cI, 4, .inl xF1)), (a3, .inl (cI, 4, .inl xF2)), (a4, .inl (cI, 4, .inl xF3)), (a5, .inr (4, [.int i1, .ref a6, .ref a7, .ref a8, .ref a9])), (a6, .inl (cI, 4, .inl xF4)), (a7, .inl (cI, 4, .inl xF5)), (a8, .inl (cI, 4, .inl xF6)), (a9, .inl (cI, 4, .inl xF7))] := hD
  refine lv_aload_n hx hb dX4_copyFrom_8 rfl (lv_at hl 1 rfl) ?_
  refine va_get (D := (dC, dI)) (ci := 4) (v := .ref a6) (C := RX4) (T := TX4) (N := 5) hx hb hwd inlX4 hown hK hP 5 rfl rfl 1 (by decide) (hwd _ kr13_16) (fun _ h9 => h9) rfl dX4_copyFrom_9 ?_
  refine lv_iconst (v := 0) hx hb dX4_copyFrom_12 (by decide) ?_
  refine lv_aload_n hx hb dX4_copyFrom_13 rfl (lv_at hl 0 rfl) ?_
  refine va_get (D := (dC, dI)) (ci := 4) (v := .ref a1) (C := RX4) (T := TX4) (N := 5) hx hb hwd inlX4 hown hK hP 0 rfl rfl 1 (by decide) (hwd _ kr13_16) (fun _ h9 => h9) rfl dX4_copyFrom_14 ?_
  refine lv_iconst (v := 0) hx hb dX4_copyFrom_17 (by decide) ?_
  refine lv_iconst (v := 4) hx hb dX4_copyFrom_18 (by decide) ?_
  refine va_copyi hx hb (by rw [hml]; exact hl.1.symm) hown (hwd _ kr46_23) (hwd _ kr27_6) (hwd _ kr27_5) (hwd _ kr6_6) hK hP hD hS 6 1 0 0 rfl rfl rfl rfl rfl (by decide) (by decide) (by decide) (by decide) (by decide) (fun _ _ => rfl) (Nat.le_of_ble_eq_true rfl) (Nat.le_of_ble_eq_true rfl) dX4_copyFrom_19 (fun H locs hP hD hS => ?_)
  obtain ⟨f1, ef1⟩ : ∃ f : Nat → Int32, f = va_cpy xF4 xF0 (0 : Int32).toNatClampNeg (0 : Int32).toNatClampNeg (4 : Int32).toNatClampNeg := ⟨_, rfl⟩
  replace hP : va_P (dC, dI) vwCl [(a0, .inr (4, [.int i1, .ref a1, .ref a2, .ref a3, .ref a4])), (a1, .inl (cI, 4, .inl f1)), (a2, .inl (cI, 4, .inl xF1)), (a3, .inl (cI, 4, .inl xF2)), (a4, .inl (cI, 4, .inl xF3)), (a5, .inr (4, [.int i1, .ref a6, .ref a7, .ref a8, .ref a9])), (a6, .inl (cI, 4, .inl xF4)), (a7, .inl (cI, 4, .inl xF5)), (a8, .inl (cI, 4, .inl xF6)), (a9, .inl (cI, 4, .inl xF7))] H := by rw [ef1]; exact hP
  replace hD : va_D A [(a0, .inr (4, [.int i1, .ref a1, .ref a2, .ref a3, .ref a4])), (a1, .inl (cI, 4, .inl f1)), (a2, .inl (cI, 4, .inl xF1)), (a3, .inl (cI, 4, .inl xF2)), (a4, .inl (cI, 4, .inl xF3)), (a5, .inr (4, [.int i1, .ref a6, .ref a7, .ref a8, .ref a9])), (a6, .inl (cI, 4, .inl xF4)), (a7, .inl (cI, 4, .inl xF5)), (a8, .inl (cI, 4, .inl xF6)), (a9, .inl (cI, 4, .inl xF7))] := by rw [ef1]; exact hD
  refine lv_aload_n hx hb dX4_copyFrom_22 rfl (lv_at hl 1 rfl) ?_
  refine va_get (D := (dC, dI)) (ci := 4) (v := .ref a7) (C := RX4) (T := TX4) (N := 5) hx hb hwd inlX4 hown hK hP 5 rfl rfl 2 (by decide) (hwd _ kr13_18) (fun _ h9 => h9) rfl dX4_copyFrom_23 ?_
  refine lv_iconst (v := 0) hx hb dX4_copyFrom_26 (by decide) ?_
  refine lv_aload_n hx hb dX4_copyFrom_27 rfl (lv_at hl 0 rfl) ?_
  refine va_get (D := (dC, dI)) (ci := 4) (v := .ref a2) (C := RX4) (T := TX4) (N := 5) hx hb hwd inlX4 hown hK hP 0 rfl rfl 2 (by decide) (hwd _ kr13_18) (fun _ h9 => h9) rfl dX4_copyFrom_28 ?_
  refine lv_iconst (v := 0) hx hb dX4_copyFrom_31 (by decide) ?_
  refine lv_iconst (v := 4) hx hb dX4_copyFrom_32 (by decide) ?_
  refine va_copyi hx hb (by rw [hml]; exact hl.1.symm) hown (hwd _ kr46_23) (hwd _ kr27_6) (hwd _ kr27_5) (hwd _ kr6_6) hK hP hD hS 7 2 0 0 rfl rfl rfl rfl rfl (by decide) (by decide) (by decide) (by decide) (by decide) (fun _ _ => rfl) (Nat.le_of_ble_eq_true rfl) (Nat.le_of_ble_eq_true rfl) dX4_copyFrom_33 (fun H locs hP hD hS => ?_)
  obtain ⟨f2, ef2⟩ : ∃ f : Nat → Int32, f = va_cpy xF5 xF1 (0 : Int32).toNatClampNeg (0 : Int32).toNatClampNeg (4 : Int32).toNatClampNeg := ⟨_, rfl⟩
  replace hP : va_P (dC, dI) vwCl [(a0, .inr (4, [.int i1, .ref a1, .ref a2, .ref a3, .ref a4])), (a1, .inl (cI, 4, .inl f1)), (a2, .inl (cI, 4, .inl f2)), (a3, .inl (cI, 4, .inl xF2)), (a4, .inl (cI, 4, .inl xF3)), (a5, .inr (4, [.int i1, .ref a6, .ref a7, .ref a8, .ref a9])), (a6, .inl (cI, 4, .inl xF4)), (a7, .inl (cI, 4, .inl xF5)), (a8, .inl (cI, 4, .inl xF6)), (a9, .inl (cI, 4, .inl xF7))] H := by rw [ef2]; exact hP
  replace hD : va_D A [(a0, .inr (4, [.int i1, .ref a1, .ref a2, .ref a3, .ref a4])), (a1, .inl (cI, 4, .inl f1)), (a2, .inl (cI, 4, .inl f2)), (a3, .inl (cI, 4, .inl xF2)), (a4, .inl (cI, 4, .inl xF3)), (a5, .inr (4, [.int i1, .ref a6, .ref a7, .ref a8, .ref a9])), (a6, .inl (cI, 4, .inl xF4)), (a7, .inl (cI, 4, .inl xF5)), (a8, .inl (cI, 4, .inl xF6)), (a9, .inl (cI, 4, .inl xF7))] := by rw [ef2]; exact hD
  refine lv_aload_n hx hb dX4_copyFrom_36 rfl (lv_at hl 1 rfl) ?_
  refine va_get (D := (dC, dI)) (ci := 4) (v := .ref a8) (C := RX4) (T := TX4) (N := 5) hx hb hwd inlX4 hown hK hP 5 rfl rfl 3 (by decide) (hwd _ kr13_20) (fun _ h9 => h9) rfl dX4_copyFrom_37 ?_
  refine lv_iconst (v := 0) hx hb dX4_copyFrom_40 (by decide) ?_
  refine lv_aload_n hx hb dX4_copyFrom_41 rfl (lv_at hl 0 rfl) ?_
  refine va_get (D := (dC, dI)) (ci := 4) (v := .ref a3) (C := RX4) (T := TX4) (N := 5) hx hb hwd inlX4 hown hK hP 0 rfl rfl 3 (by decide) (hwd _ kr13_20) (fun _ h9 => h9) rfl dX4_copyFrom_42 ?_
  refine lv_iconst (v := 0) hx hb dX4_copyFrom_45 (by decide) ?_
  refine lv_iconst (v := 4) hx hb dX4_copyFrom_46 (by decide) ?_
  refine va_copyi hx hb (by rw [hml]; exact hl.1.symm) hown (hwd _ kr46_23) (hwd _ kr27_6) (hwd _ kr27_5) (hwd _ kr6_6) hK hP hD hS 8 3 0 0 rfl rfl rfl rfl rfl (by decide) (by decide) (by decide) (by decide) (by decide) (fun _ _ => rfl) (Nat.le_of_ble_eq_true rfl) (Nat.le_of_ble_eq_true rfl) dX4_copyFrom_47 (fun H locs hP hD hS => ?_)
  obtain ⟨f3, ef3⟩ : ∃ f : Nat → Int32, f = va_cpy xF6 xF2 (0 : Int32).toNatClampNeg (0 : Int32).toNatClampNeg (4 : Int32).toNatClampNeg := ⟨_, rfl⟩
  replace hP : va_P (dC, dI) vwCl [(a0, .inr (4, [.int i1, .ref a1, .ref a2, .ref a3, .ref a4])), (a1, .inl (cI, 4, .inl f1)), (a2, .inl (cI, 4, .inl f2)), (a3, .inl (cI, 4, .inl f3)), (a4, .inl (cI, 4, .inl xF3)), (a5, .inr (4, [.int i1, .ref a6, .ref a7, .ref a8, .ref a9])), (a6, .inl (cI, 4, .inl xF4)), (a7, .inl (cI, 4, .inl xF5)), (a8, .inl (cI, 4, .inl xF6)), (a9, .inl (cI, 4, .inl xF7))] H := by rw [ef3]; exact hP
  replace hD : va_D A [(a0, .inr (4, [.int i1, .ref a1, .ref a2, .ref a3, .ref a4])), (a1, .inl (cI, 4, .inl f1)), (a2, .inl (cI, 4, .inl f2)), (a3, .inl (cI, 4, .inl f3)), (a4, .inl (cI, 4, .inl xF3)), (a5, .inr (4, [.int i1, .ref a6, .ref a7, .ref a8, .ref a9])), (a6, .inl (cI, 4, .inl xF4)), (a7, .inl (cI, 4, .inl xF5)), (a8, .inl (cI, 4, .inl xF6)), (a9, .inl (cI, 4, .inl xF7))] := by rw [ef3]; exact hD
  refine lv_aload_n hx hb dX4_copyFrom_50 rfl (lv_at hl 1 rfl) ?_
  refine va_get (D := (dC, dI)) (ci := 4) (v := .ref a9) (C := RX4) (T := TX4) (N := 5) hx hb hwd inlX4 hown hK hP 5 rfl rfl 4 (by decide) (hwd _ kr13_21) (fun _ h9 => h9) rfl dX4_copyFrom_51 ?_
  refine lv_iconst (v := 0) hx hb dX4_copyFrom_54 (by decide) ?_
  refine lv_aload_n hx hb dX4_copyFrom_55 rfl (lv_at hl 0 rfl) ?_
  refine va_get (D := (dC, dI)) (ci := 4) (v := .ref a4) (C := RX4) (T := TX4) (N := 5) hx hb hwd inlX4 hown hK hP 0 rfl rfl 4 (by decide) (hwd _ kr13_21) (fun _ h9 => h9) rfl dX4_copyFrom_56 ?_
  refine lv_iconst (v := 0) hx hb dX4_copyFrom_59 (by decide) ?_
  refine lv_iconst (v := 4) hx hb dX4_copyFrom_60 (by decide) ?_
  refine va_copyi hx hb (by rw [hml]; exact hl.1.symm) hown (hwd _ kr46_23) (hwd _ kr27_6) (hwd _ kr27_5) (hwd _ kr6_6) hK hP hD hS 9 4 0 0 rfl rfl rfl rfl rfl (by decide) (by decide) (by decide) (by decide) (by decide) (fun _ _ => rfl) (Nat.le_of_ble_eq_true rfl) (Nat.le_of_ble_eq_true rfl) dX4_copyFrom_61 (fun H locs hP hD hS => ?_)
  obtain ⟨f4, ef4⟩ : ∃ f : Nat → Int32, f = va_cpy xF7 xF3 (0 : Int32).toNatClampNeg (0 : Int32).toNatClampNeg (4 : Int32).toNatClampNeg := ⟨_, rfl⟩
  replace hP : va_P (dC, dI) vwCl [(a0, .inr (4, [.int i1, .ref a1, .ref a2, .ref a3, .ref a4])), (a1, .inl (cI, 4, .inl f1)), (a2, .inl (cI, 4, .inl f2)), (a3, .inl (cI, 4, .inl f3)), (a4, .inl (cI, 4, .inl f4)), (a5, .inr (4, [.int i1, .ref a6, .ref a7, .ref a8, .ref a9])), (a6, .inl (cI, 4, .inl xF4)), (a7, .inl (cI, 4, .inl xF5)), (a8, .inl (cI, 4, .inl xF6)), (a9, .inl (cI, 4, .inl xF7))] H := by rw [ef4]; exact hP
  replace hD : va_D A [(a0, .inr (4, [.int i1, .ref a1, .ref a2, .ref a3, .ref a4])), (a1, .inl (cI, 4, .inl f1)), (a2, .inl (cI, 4, .inl f2)), (a3, .inl (cI, 4, .inl f3)), (a4, .inl (cI, 4, .inl f4)), (a5, .inr (4, [.int i1, .ref a6, .ref a7, .ref a8, .ref a9])), (a6, .inl (cI, 4, .inl xF4)), (a7, .inl (cI, 4, .inl xF5)), (a8, .inl (cI, 4, .inl xF6)), (a9, .inl (cI, 4, .inl xF7))] := by rw [ef4]; exact hD
  have hP9 := hP.sub (ws' := [(a0, .inr (4, [.int i1, .ref a1, .ref a2, .ref a3, .ref a4])), (a1, .inl (cI, 4, .inl f1)), (a2, .inl (cI, 4, .inl f2)), (a3, .inl (cI, 4, .inl f3)), (a4, .inl (cI, 4, .inl f4)), (a5, .inr (4, [.int i1, .ref a6, .ref a7, .ref a8, .ref a9])), (a6, .inl (cI, 4, .inl xF4)), (a7, .inl (cI, 4, .inl xF5)), (a8, .inl (cI, 4, .inl xF6)), (a9, .inl (cI, 4, .inl xF7))]) [0, 1, 2, 3, 4, 5, 6, 7, 8, 9] rfl
  have hD9 := hD.sub (ws' := [(a0, .inr (4, [.int i1, .ref a1, .ref a2, .ref a3, .ref a4])), (a1, .inl (cI, 4, .inl f1)), (a2, .inl (cI, 4, .inl f2)), (a3, .inl (cI, 4, .inl f3)), (a4, .inl (cI, 4, .inl f4)), (a5, .inr (4, [.int i1, .ref a6, .ref a7, .ref a8, .ref a9])), (a6, .inl (cI, 4, .inl xF4)), (a7, .inl (cI, 4, .inl xF5)), (a8, .inl (cI, 4, .inl xF6)), (a9, .inl (cI, 4, .inl xF7))]) [0, 1, 2, 3, 4, 5, 6, 7, 8, 9] (by decide) rfl
  rw [hQ]
  exact W.vret hx hb hr (fun t ht hW => ⟨⟨(pickG 0 [i1], pickG (fun _ => 0) [f1, f2, f3, f4], pickG (fun _ => 0) []), rfl, ⟨(show (0 : Int) ≤ i1.toInt ∧ i1.toInt ≤ 4 from p_1), trivial⟩, (by rw [ht]; exact hP9), hD9⟩, hS.F ht⟩) hS.2.2 dX4_copyFrom_64
theorem dX4_roundByTeeth_0 : decode cX4_roundByTeeth 0 = .ok (.aload_n 0, 1) := by decide +kernel
theorem dX4_roundByTeeth_1 : decode cX4_roundByTeeth 1 = .ok (.getfield 18, 3) := by decide +kernel
theorem dX4_roundByTeeth_4 : decode cX4_roundByTeeth 4 = .ok (.iload_n 1, 1) := by decide +kernel
theorem dX4_roundByTeeth_5 : decode cX4_roundByTeeth 5 = .ok (.iaload, 1) := by decide +kernel
theorem dX4_roundByTeeth_6 : decode cX4_roundByTeeth 6 = .ok (.iconst 1, 1) := by decide +kernel
theorem dX4_roundByTeeth_7 : decode cX4_roundByTeeth 7 = .ok (.if_icmp .ge 7, 3) := by decide +kernel
theorem dX4_roundByTeeth_10 : decode cX4_roundByTeeth 10 = .ok (.iconst 0, 1) := by decide +kernel
theorem dX4_roundByTeeth_11 : decode cX4_roundByTeeth 11 = .ok (.goto 11, 3) := by decide +kernel
theorem dX4_roundByTeeth_14 : decode cX4_roundByTeeth 14 = .ok (.iload_n 2, 1) := by decide +kernel
theorem dX4_roundByTeeth_15 : decode cX4_roundByTeeth 15 = .ok (.aload_n 0, 1) := by decide +kernel
theorem dX4_roundByTeeth_16 : decode cX4_roundByTeeth 16 = .ok (.getfield 18, 3) := by decide +kernel
theorem dX4_roundByTeeth_19 : decode cX4_roundByTeeth 19 = .ok (.iload_n 1, 1) := by decide +kernel
theorem dX4_roundByTeeth_20 : decode cX4_roundByTeeth 20 = .ok (.iaload, 1) := by decide +kernel
theorem dX4_roundByTeeth_21 : decode cX4_roundByTeeth 21 = .ok (.irem, 1) := by decide +kernel
theorem dX4_roundByTeeth_22 : decode cX4_roundByTeeth 22 = .ok (.ireturn, 1) := by decide +kernel
set_option maxHeartbeats 4000000 in
set_option maxRecDepth 100000 in
theorem s_X4_roundByTeeth (l : Launch) (dC : Nat → ClassId) (dI : Nat → Nat → Nat) (cI cZ cB cJ cM cG : ClassId) (a0 a1 a2 a3 a4 : Nat) (i0 : Int32) (xF2 : Nat → Int32) (p0 p1 : Int32) (sz : Nat) (p_0 : (0 : Int) ≤ i0.toInt ∧ i0.toInt ≤ 4) (p_1 : (0 : Int) ≤ p0.toInt ∧ p0.toInt ≤ 3) : Met l yX4_roundByTeeth (kw yX4_roundByTeeth cX4_roundByTeeth 3 (some .int)) ({ frames := 0, cells := 0, slots := 0, locals := 0 } : Room) (va_Pc [.ref a0, .int p0, .int p1] (kPre dC dI [(cI, .int), (cZ, .boolean), (cB, .byte), (cJ, .long), (cM, .object RX2), (cG, .array .int)] [(a0, .inr (4, [.int i0, .ref a1, .ref a2, .ref a3, .ref a4])), (a3, .inl (cI, 4, .inl xF2))] sz)) (va_Qi (fun (r : Int32) (u9 : Unit) => True) (fun u9 t => va_P (dC, dI) vwCl [(a0, .inr (4, [.int i0, .ref a1, .ref a2, .ref a3, .ref a4])), (a3, .inl (cI, 4, .inl xF2))] t.heap ∧ va_D (va_A [(a0, .inr (4, [.int i0, .ref a1, .ref a2, .ref a3, .ref a4])), (a3, .inl (cI, 4, .inl xF2))] sz) [(a0, .inr (4, [.int i0, .ref a1, .ref a2, .ref a3, .ref a4])), (a3, .inl (cI, 4, .inl xF2))]) (va_A [(a0, .inr (4, [.int i0, .ref a1, .ref a2, .ref a3, .ref a4])), (a3, .inl (cI, 4, .inl xF2))] sz)) 0 0 (va_A [(a0, .inr (4, [.int i0, .ref a1, .ref a2, .ref a3, .ref a4])), (a3, .inl (cI, 4, .inl xF2))] sz) := by
  refine kEnter (by decide) (Nat.le_of_ble_eq_true rfl) ?_
  intro p e s m below meth c ls hx hb hr hml hown hlocks hin hwd hsz hP hK hD hl
  subst hsz
  generalize hAe : va_A [(a0, .inr (4, [.int i0, .ref a1, .ref a2, .ref a3, .ref a4])), (a3, .inl (cI, 4, .inl xF2))] s.heap.size = A at hD ⊢
  have hA : ∀ q : Nat, s.heap.size ≤ q → A q := fun q h => by rw [← hAe]; exact Or.inr h
  have hS : va_S A s.heap s.heap [] := va_S.rf
  have hl : lv_has ls 3 [(0, .ref a0), (1, .int p0), (2, .int p1)] := hl
  obtain ⟨Q, hQ⟩ : ∃ Q, Q = MQ below (va_Qi (fun (r : Int32) (u9 : Unit) => True) (fun u9 t => va_P (dC, dI) vwCl [(a0, .inr (4, [.int i0, .ref a1, .ref a2, .ref a3, .ref a4])), (a3, .inl (cI, 4, .inl xF2))] t.heap ∧ va_D A [(a0, .inr (4, [.int i0, .ref a1, .ref a2, .ref a3, .ref a4])), (a3, .inl (cI, 4, .inl xF2))]) A) ([.ref a0, .int p0, .int p1] : List Value).toArray s 0 0 A := ⟨_, rfl⟩
  rw [← hQ]
  have k0 : (0 : Int32).toInt = 0 := by decide
  have k1 : (1 : Int32).toInt = 1 := by decide
  refine lv_aload_n hx hb dX4_roundByTeeth_0 rfl (lv_at hl 0 rfl) ?_
  refine va_get (D := (dC, dI)) (ci := 4) (v := .ref a3) (C := RX4) (T := TX4) (N := 5) hx hb hwd inlX4 hown hK hP 0 rfl rfl 3 (by decide) (hwd _ kr13_20) (fun _ h9 => h9) rfl dX4_roundByTeeth_1 ?_
  refine lv_iload_n hx hb dX4_roundByTeeth_4 rfl (lv_at hl 1 rfl) ?_
  have h1 : vp_in p0 4 := (vp_of (by omega) (by omega))
  refine va_iald hx hb hK hP 1 0 rfl rfl h1 dX4_roundByTeeth_5 ?_
  refine lv_topi (fun x2 ex2 => ?_)
  refine lv_iconst (v := 1) hx hb dX4_roundByTeeth_6 (by decide) ?_
  refine lv_icmp_ge (tgt := 14) hx hb dX4_roundByTeeth_7 (by decide) (fun c3 => ?_) (fun c3 => ?_)
  · rw [ki_le] at c3
    refine lv_iload_n hx hb dX4_roundByTeeth_14 rfl (lv_at hl 2 rfl) ?_
    refine lv_aload_n hx hb dX4_roundByTeeth_15 rfl (lv_at hl 0 rfl) ?_
    refine va_get (D := (dC, dI)) (ci := 4) (v := .ref a3) (C := RX4) (T := TX4) (N := 5) hx hb hwd inlX4 hown hK hP 0 rfl rfl 3 (by decide) (hwd _ kr13_20) (fun _ h9 => h9) rfl dX4_roundByTeeth_16 ?_
    refine lv_iload_n hx hb dX4_roundByTeeth_19 rfl (lv_at hl 1 rfl) ?_
    have h4 : vp_in p0 4 := (vp_of (by omega) (by omega))
    refine va_iald hx hb hK hP 1 0 rfl rfl h4 dX4_roundByTeeth_20 ?_
    refine lv_topi (nm_r (e' := x2) ex2.symm ?_)
    refine lv_irem hx hb dX4_roundByTeeth_21 (fun h9 => by rw [ki_eq] at h9; omega) ?_
    refine lv_topi (fun x5 ex5 => ?_)
    have tx5 := ir_any (a := p1) (b := x2) (by omega)
    rw [← ex5] at tx5
    have hP9 := hP.sub (ws' := [(a0, .inr (4, [.int i0, .ref a1, .ref a2, .ref a3, .ref a4])), (a3, .inl (cI, 4, .inl xF2))]) [0, 1] rfl
    have hD9 := hD.sub (ws' := [(a0, .inr (4, [.int i0, .ref a1, .ref a2, .ref a3, .ref a4])), (a3, .inl (cI, 4, .inl xF2))]) [0, 1] (by decide) rfl
    rw [hQ]
    exact W.iret (v := x5) hx hb hr (fun t ht hW => ⟨⟨x5, (), rfl, trivial, (by rw [ht]; exact hP9), hD9⟩, hS.F ht⟩) hS.2.2 dX4_roundByTeeth_22
  · rw [ki_le] at c3
    refine lv_iconst (v := 0) hx hb dX4_roundByTeeth_10 (by decide) ?_
    refine lv_goto (tgt := 22) hx hb dX4_roundByTeeth_11 (by decide) ?_
    have hP9 := hP.sub (ws' := [(a0, .inr (4, [.int i0, .ref a1, .ref a2, .ref a3, .ref a4])), (a3, .inl (cI, 4, .inl xF2))]) [0, 1] rfl
    have hD9 := hD.sub (ws' := [(a0, .inr (4, [.int i0, .ref a1, .ref a2, .ref a3, .ref a4])), (a3, .inl (cI, 4, .inl xF2))]) [0, 1] (by decide) rfl
    rw [hQ]
    exact W.iret (v := 0) hx hb hr (fun t ht hW => ⟨⟨0, (), rfl, trivial, (by rw [ht]; exact hP9), hD9⟩, hS.F ht⟩) hS.2.2 dX4_roundByTeeth_22
theorem dX4_goOn_0 : decode cX4_goOn 0 = .ok (.iconst 0, 1) := by decide +kernel
theorem dX4_goOn_1 : decode cX4_goOn 1 = .ok (.istore_n 2, 1) := by decide +kernel
theorem dX4_goOn_2 : decode cX4_goOn 2 = .ok (.iload_n 2, 1) := by decide +kernel
theorem dX4_goOn_3 : decode cX4_goOn 3 = .ok (.aload_n 0, 1) := by decide +kernel
theorem dX4_goOn_4 : decode cX4_goOn 4 = .ok (.getfield 24, 3) := by decide +kernel
theorem dX4_goOn_7 : decode cX4_goOn 7 = .ok (.if_icmp .ge 77, 3) := by decide +kernel
theorem dX4_goOn_10 : decode cX4_goOn 10 = .ok (.aload_n 0, 1) := by decide +kernel
theorem dX4_goOn_11 : decode cX4_goOn 11 = .ok (.getfield 9, 3) := by decide +kernel
theorem dX4_goOn_14 : decode cX4_goOn 14 = .ok (.iload_n 2, 1) := by decide +kernel
theorem dX4_goOn_15 : decode cX4_goOn 15 = .ok (.iaload, 1) := by decide +kernel
theorem dX4_goOn_16 : decode cX4_goOn 16 = .ok (.istore_n 3, 1) := by decide +kernel
theorem dX4_goOn_17 : decode cX4_goOn 17 = .ok (.iload_n 3, 1) := by decide +kernel
theorem dX4_goOn_18 : decode cX4_goOn 18 = .ok (.ifCond .lt 60, 3) := by decide +kernel
theorem dX4_goOn_21 : decode cX4_goOn 21 = .ok (.iload_n 3, 1) := by decide +kernel
theorem dX4_goOn_22 : decode cX4_goOn 22 = .ok (.aload_n 1, 1) := by decide +kernel
theorem dX4_goOn_23 : decode cX4_goOn 23 = .ok (.getfield 54, 3) := by decide +kernel
theorem dX4_goOn_26 : decode cX4_goOn 26 = .ok (.if_icmp .ge 52, 3) := by decide +kernel
theorem dX4_goOn_29 : decode cX4_goOn 29 = .ok (.aload_n 1, 1) := by decide +kernel
theorem dX4_goOn_30 : decode cX4_goOn 30 = .ok (.getfield 57, 3) := by decide +kernel
theorem dX4_goOn_33 : decode cX4_goOn 33 = .ok (.iload_n 3, 1) := by decide +kernel
theorem dX4_goOn_34 : decode cX4_goOn 34 = .ok (.iaload, 1) := by decide +kernel
theorem dX4_goOn_35 : decode cX4_goOn 35 = .ok (.aload_n 0, 1) := by decide +kernel
theorem dX4_goOn_36 : decode cX4_goOn 36 = .ok (.getfield 15, 3) := by decide +kernel
theorem dX4_goOn_39 : decode cX4_goOn 39 = .ok (.iload_n 2, 1) := by decide +kernel
theorem dX4_goOn_40 : decode cX4_goOn 40 = .ok (.iaload, 1) := by decide +kernel
theorem dX4_goOn_41 : decode cX4_goOn 41 = .ok (.if_icmp .ge 37, 3) := by decide +kernel
theorem dX4_goOn_44 : decode cX4_goOn 44 = .ok (.aload_n 1, 1) := by decide +kernel
theorem dX4_goOn_45 : decode cX4_goOn 45 = .ok (.getfield 60, 3) := by decide +kernel
theorem dX4_goOn_48 : decode cX4_goOn 48 = .ok (.iload_n 3, 1) := by decide +kernel
theorem dX4_goOn_49 : decode cX4_goOn 49 = .ok (.iaload, 1) := by decide +kernel
theorem dX4_goOn_50 : decode cX4_goOn 50 = .ok (.aload_n 0, 1) := by decide +kernel
theorem dX4_goOn_51 : decode cX4_goOn 51 = .ok (.getfield 15, 3) := by decide +kernel
theorem dX4_goOn_54 : decode cX4_goOn 54 = .ok (.iload_n 2, 1) := by decide +kernel
theorem dX4_goOn_55 : decode cX4_goOn 55 = .ok (.iaload, 1) := by decide +kernel
theorem dX4_goOn_56 : decode cX4_goOn 56 = .ok (.if_icmp .lt 22, 3) := by decide +kernel
theorem dX4_goOn_59 : decode cX4_goOn 59 = .ok (.aload_n 0, 1) := by decide +kernel
theorem dX4_goOn_60 : decode cX4_goOn 60 = .ok (.getfield 21, 3) := by decide +kernel
theorem dX4_goOn_63 : decode cX4_goOn 63 = .ok (.iload_n 2, 1) := by decide +kernel
theorem dX4_goOn_64 : decode cX4_goOn 64 = .ok (.aload_n 0, 1) := by decide +kernel
theorem dX4_goOn_65 : decode cX4_goOn 65 = .ok (.iload_n 2, 1) := by decide +kernel
theorem dX4_goOn_66 : decode cX4_goOn 66 = .ok (.aload_n 0, 1) := by decide +kernel
theorem dX4_goOn_67 : decode cX4_goOn 67 = .ok (.getfield 21, 3) := by decide +kernel
theorem dX4_goOn_70 : decode cX4_goOn 70 = .ok (.iload_n 2, 1) := by decide +kernel
theorem dX4_goOn_71 : decode cX4_goOn 71 = .ok (.iaload, 1) := by decide +kernel
theorem dX4_goOn_72 : decode cX4_goOn 72 = .ok (.iconst 1, 1) := by decide +kernel
theorem dX4_goOn_73 : decode cX4_goOn 73 = .ok (.iadd, 1) := by decide +kernel
theorem dX4_goOn_74 : decode cX4_goOn 74 = .ok (.invokevirtual 63, 3) := by decide +kernel
theorem dX4_goOn_77 : decode cX4_goOn 77 = .ok (.iastore, 1) := by decide +kernel
theorem dX4_goOn_78 : decode cX4_goOn 78 = .ok (.iinc 2 1, 3) := by decide +kernel
theorem dX4_goOn_81 : decode cX4_goOn 81 = .ok (.goto (-79), 3) := by decide +kernel
theorem dX4_goOn_84 : decode cX4_goOn 84 = .ok (.return_, 1) := by decide +kernel
set_option maxHeartbeats 4000000 in
set_option maxRecDepth 100000 in
theorem s_X4_goOn (l : Launch) (dC : Nat → ClassId) (dI : Nat → Nat → Nat) (cI cZ cB cJ cM cG : ClassId) (a0 a1 a2 a3 a4 a5 a6 a7 a8 a9 a10 a11 a12 a13 a14 : Nat) (i0 i1 : Int32) (xF0 xF1 xF2 xF3 xF10 xF11 : Nat → Int32) (sz : Nat) (p_0 : (0 : Int) ≤ i0.toInt ∧ i0.toInt ≤ 4) (p_1 : (0 : Int) ≤ i1.toInt ∧ i1.toInt ≤ 10) : Met l yX4_goOn (kw yX4_goOn cX4_goOn 4 none) ({ frames := 1, cells := 0, slots := 0, locals := 22 } : Room) (va_Pc [.ref a0, .ref a5] (kPre dC dI [(cI, .int), (cZ, .boolean), (cB, .byte), (cJ, .long), (cM, .object RX2), (cG, .array .int)] [(a0, .inr (4, [.int i0, .ref a1, .ref a2, .ref a3, .ref a4])), (a1, .inl (cI, 4, .inl xF0)), (a2, .inl (cI, 4, .inl xF1)), (a3, .inl (cI, 4, .inl xF2)), (a4, .inl (cI, 4, .inl xF3)), (a5, .inr (1, [.int i1, .ref a6, .ref a7, .ref a8, .ref a9, .ref a10, .ref a11, .ref a12, .ref a13, .ref a14])), (a12, .inl (cI, 10, .inl xF10)), (a13, .inl (cI, 10, .inl xF11))] sz)) (va_Qv (fun (u9 : (Nat → Int32) × (Nat → Nat → Int32) × (Nat → Nat → Int64)) => True) (fun u9 t => va_P (dC, dI) vwCl [(a0, .inr (4, [.int i0, .ref a1, .ref a2, .ref a3, .ref a4])), (a1, .inl (cI, 4, .inl xF0)), (a2, .inl (cI, 4, .inl xF1)), (a3, .inl (cI, 4, .inl xF2)), (a4, .inl (cI, 4, .inl (u9.2.1 0))), (a5, .inr (1, [.int i1, .ref a6, .ref a7, .ref a8, .ref a9, .ref a10, .ref a11, .ref a12, .ref a13, .ref a14])), (a12, .inl (cI, 10, .inl xF10)), (a13, .inl (cI, 10, .inl xF11))] t.heap ∧ va_D (va_A [(a0, .inr (4, [.int i0, .ref a1, .ref a2, .ref a3, .ref a4])), (a1, .inl (cI, 4, .inl xF0)), (a2, .inl (cI, 4, .inl xF1)), (a3, .inl (cI, 4, .inl xF2)), (a4, .inl (cI, 4, .inl xF3)), (a5, .inr (1, [.int i1, .ref a6, .ref a7, .ref a8, .ref a9, .ref a10, .ref a11, .ref a12, .ref a13, .ref a14])), (a12, .inl (cI, 10, .inl xF10)), (a13, .inl (cI, 10, .inl xF11))] sz) [(a0, .inr (4, [.int i0, .ref a1, .ref a2, .ref a3, .ref a4])), (a1, .inl (cI, 4, .inl xF0)), (a2, .inl (cI, 4, .inl xF1)), (a3, .inl (cI, 4, .inl xF2)), (a4, .inl (cI, 4, .inl (u9.2.1 0))), (a5, .inr (1, [.int i1, .ref a6, .ref a7, .ref a8, .ref a9, .ref a10, .ref a11, .ref a12, .ref a13, .ref a14])), (a12, .inl (cI, 10, .inl xF10)), (a13, .inl (cI, 10, .inl xF11))]) (va_A [(a0, .inr (4, [.int i0, .ref a1, .ref a2, .ref a3, .ref a4])), (a1, .inl (cI, 4, .inl xF0)), (a2, .inl (cI, 4, .inl xF1)), (a3, .inl (cI, 4, .inl xF2)), (a4, .inl (cI, 4, .inl xF3)), (a5, .inr (1, [.int i1, .ref a6, .ref a7, .ref a8, .ref a9, .ref a10, .ref a11, .ref a12, .ref a13, .ref a14])), (a12, .inl (cI, 10, .inl xF10)), (a13, .inl (cI, 10, .inl xF11))] sz)) 0 0 (va_A [(a0, .inr (4, [.int i0, .ref a1, .ref a2, .ref a3, .ref a4])), (a1, .inl (cI, 4, .inl xF0)), (a2, .inl (cI, 4, .inl xF1)), (a3, .inl (cI, 4, .inl xF2)), (a4, .inl (cI, 4, .inl xF3)), (a5, .inr (1, [.int i1, .ref a6, .ref a7, .ref a8, .ref a9, .ref a10, .ref a11, .ref a12, .ref a13, .ref a14])), (a12, .inl (cI, 10, .inl xF10)), (a13, .inl (cI, 10, .inl xF11))] sz) := by
  refine kEnter (by decide) (Nat.le_of_ble_eq_true rfl) ?_
  intro p e s m below meth c ls hx hb hr hml hown hlocks hin hwd hsz hP hK hD hl
  subst hsz
  generalize hAe : va_A [(a0, .inr (4, [.int i0, .ref a1, .ref a2, .ref a3, .ref a4])), (a1, .inl (cI, 4, .inl xF0)), (a2, .inl (cI, 4, .inl xF1)), (a3, .inl (cI, 4, .inl xF2)), (a4, .inl (cI, 4, .inl xF3)), (a5, .inr (1, [.int i1, .ref a6, .ref a7, .ref a8, .ref a9, .ref a10, .ref a11, .ref a12, .ref a13, .ref a14])), (a12, .inl (cI, 10, .inl xF10)), (a13, .inl (cI, 10, .inl xF11))] s.heap.size = A at hD ⊢
  have hA : ∀ q : Nat, s.heap.size ≤ q → A q := fun q h => by rw [← hAe]; exact Or.inr h
  have hS : va_S A s.heap s.heap [] := va_S.rf
  have hl : lv_has ls 4 [(0, .ref a0), (1, .ref a5)] := hl
  obtain ⟨Q, hQ⟩ : ∃ Q, Q = MQ below (va_Qv (fun (u9 : (Nat → Int32) × (Nat → Nat → Int32) × (Nat → Nat → Int64)) => True) (fun u9 t => va_P (dC, dI) vwCl [(a0, .inr (4, [.int i0, .ref a1, .ref a2, .ref a3, .ref a4])), (a1, .inl (cI, 4, .inl xF0)), (a2, .inl (cI, 4, .inl xF1)), (a3, .inl (cI, 4, .inl xF2)), (a4, .inl (cI, 4, .inl (u9.2.1 0))), (a5, .inr (1, [.int i1, .ref a6, .ref a7, .ref a8, .ref a9, .ref a10, .ref a11, .ref a12, .ref a13, .ref a14])), (a12, .inl (cI, 10, .inl xF10)), (a13, .inl (cI, 10, .inl xF11))] t.heap ∧ va_D A [(a0, .inr (4, [.int i0, .ref a1, .ref a2, .ref a3, .ref a4])), (a1, .inl (cI, 4, .inl xF0)), (a2, .inl (cI, 4, .inl xF1)), (a3, .inl (cI, 4, .inl xF2)), (a4, .inl (cI, 4, .inl (u9.2.1 0))), (a5, .inr (1, [.int i1, .ref a6, .ref a7, .ref a8, .ref a9, .ref a10, .ref a11, .ref a12, .ref a13, .ref a14])), (a12, .inl (cI, 10, .inl xF10)), (a13, .inl (cI, 10, .inl xF11))]) A) ([.ref a0, .ref a5] : List Value).toArray s 0 0 A := ⟨_, rfl⟩
  rw [← hQ]
  have k0 : (0 : Int32).toInt = 0 := by decide
  have k1 : (1 : Int32).toInt = 1 := by decide
  refine lv_iconst (v := 0) hx hb dX4_goOn_0 (by decide) ?_
  refine lv_istore_n (lv' := [(2, .int 0), (0, .ref a0), (1, .ref a5)]) hx hb dX4_goOn_1 rfl hl (by decide) rfl (fun ls hl => ?_)
  have lp1 : ∀ (d : Nat), ∀ (H : Heap) (locs : List Loc) (ls : Array Slot) (w2_1 : Int32) (g1_1 : Nat → Int32), ((0 : Int) ≤ w2_1.toInt ∧ w2_1.toInt ≤ 4) → (4 - w2_1.toInt).toNat < d → va_P (dC, dI) vwCl [(a0, .inr (4, [.int i0, .ref a1, .ref a2, .ref a3, .ref a4])), (a1, .inl (cI, 4, .inl xF0)), (a2, .inl (cI, 4, .inl xF1)), (a3, .inl (cI, 4, .inl xF2)), (a4, .inl (cI, 4, .inl g1_1)), (a5, .inr (1, [.int i1, .ref a6, .ref a7, .ref a8, .ref a9, .ref a10, .ref a11, .ref a12, .ref a13, .ref a14])), (a12, .inl (cI, 10, .inl xF10)), (a13, .inl (cI, 10, .inl xF11))] H → va_D A [(a0, .inr (4, [.int i0, .ref a1, .ref a2, .ref a3, .ref a4])), (a1, .inl (cI, 4, .inl xF0)), (a2, .inl (cI, 4, .inl xF1)), (a3, .inl (cI, 4, .inl xF2)), (a4, .inl (cI, 4, .inl g1_1)), (a5, .inr (1, [.int i1, .ref a6, .ref a7, .ref a8, .ref a9, .ref a10, .ref a11, .ref a12, .ref a13, .ref a14])), (a12, .inl (cI, 10, .inl xF10)), (a13, .inl (cI, 10, .inl xF11))] → va_S A s.heap H locs → lv_has ls 4 [(0, .ref a0), (1, .ref a5), (2, .int w2_1)] → W p l e ({ frames := 1, cells := 0, slots := 0, locals := 22 } : Room) s m ([.ref a0, .ref a5] : List Value).toArray below meth c H locs 0 0 Q (F0 m 2 ls []) := by
    intro d
    induction d with
    | zero =>
      intro H locs ls w2_1 g1_1 hr_w2_1 hm hP hD hS hl
      omega
    | succ d ih1 =>
      intro H locs ls w2_1 g1_1 hr_w2_1 hm hP hD hS hl
      refine lv_iload_n hx hb dX4_goOn_2 rfl (lv_at hl 2 rfl) ?_
      refine lv_aload_n hx hb dX4_goOn_3 rfl (lv_at hl 0 rfl) ?_
      refine va_get (D := (dC, dI)) (ci := 4) (v := .int i0) (C := RX4) (T := TX4) (N := 5) hx hb hwd inlX4 hown hK hP 0 rfl rfl 0 (by decide) (hwd _ kr13_13) (fun _ h9 => h9) rfl dX4_goOn_4 ?_
      refine lv_icmp_ge (tgt := 84) hx hb dX4_goOn_7 (by decide) (fun c121 => ?_) (fun c121 => ?_)
      · rw [ki_le] at c121
        have hP9 := hP.sub (ws' := [(a0, .inr (4, [.int i0, .ref a1, .ref a2, .ref a3, .ref a4])), (a1, .inl (cI, 4, .inl xF0)), (a2, .inl (cI, 4, .inl xF1)), (a3, .inl (cI, 4, .inl xF2)), (a4, .inl (cI, 4, .inl g1_1)), (a5, .inr (1, [.int i1, .ref a6, .ref a7, .ref a8, .ref a9, .ref a10, .ref a11, .ref a12, .ref a13, .ref a14])), (a12, .inl (cI, 10, .inl xF10)), (a13, .inl (cI, 10, .inl xF11))]) [0, 1, 2, 3, 4, 5, 6, 7] rfl
        have hD9 := hD.sub (ws' := [(a0, .inr (4, [.int i0, .ref a1, .ref a2, .ref a3, .ref a4])), (a1, .inl (cI, 4, .inl xF0)), (a2, .inl (cI, 4, .inl xF1)), (a3, .inl (cI, 4, .inl xF2)), (a4, .inl (cI, 4, .inl g1_1)), (a5, .inr (1, [.int i1, .ref a6, .ref a7, .ref a8, .ref a9, .ref a10, .ref a11, .ref a12, .ref a13, .ref a14])), (a12, .inl (cI, 10, .inl xF10)), (a13, .inl (cI, 10, .inl xF11))]) [0, 1, 2, 3, 4, 5, 6, 7] (by decide) rfl
        rw [hQ]
        exact W.vret hx hb hr (fun t ht hW => ⟨⟨(pickG 0 [], pickG (fun _ => 0) [g1_1], pickG (fun _ => 0) []), rfl, trivial, (by rw [ht]; exact hP9), hD9⟩, hS.F ht⟩) hS.2.2 dX4_goOn_84
      · rw [ki_le] at c121
        refine lv_aload_n hx hb dX4_goOn_10 rfl (lv_at hl 0 rfl) ?_
        refine va_get (D := (dC, dI)) (ci := 4) (v := .ref a1) (C := RX4) (T := TX4) (N := 5) hx hb hwd inlX4 hown hK hP 0 rfl rfl 1 (by decide) (hwd _ kr13_16) (fun _ h9 => h9) rfl dX4_goOn_11 ?_
        refine lv_iload_n hx hb dX4_goOn_14 rfl (lv_at hl 2 rfl) ?_
        have h122 : vp_in w2_1 4 := (vp_of (by omega) (by omega))
        refine va_iald hx hb hK hP 1 0 rfl rfl h122 dX4_goOn_15 ?_
        refine lv_topi (fun x123 ex123 => ?_)
        refine lv_istore_n (lv' := [(3, .int x123), (0, .ref a0), (1, .ref a5), (2, .int w2_1)]) hx hb dX4_goOn_16 rfl hl (by decide) rfl (fun ls hl => ?_)
        refine lv_iload_n hx hb dX4_goOn_17 rfl (lv_at hl 0 rfl) ?_
        refine lv_if_lt (tgt := 78) hx hb dX4_goOn_18 (by decide) (fun c124 => ?_) (fun c124 => ?_)
        · rw [ki_lt] at c124
          obtain ⟨x125, ex125⟩ : ∃ y : Int32, y = w2_1 + 1 := ⟨_, rfl⟩
          refine lv_iinc (v := x125) (lv' := [(2, .int x125), (3, .int x123), (0, .ref a0), (1, .ref a5)]) hx hb dX4_goOn_78 hl (k := 3) rfl (by rw [ex125]; rfl) (by decide) rfl (fun ls hl => ?_)
          have tx125 := ia_add (a := w2_1) (b := (1 : Int32)) (by omega) (by omega)
          rw [← ex125] at tx125
          refine lv_goto (tgt := 2) hx hb dX4_goOn_81 (by decide) ?_
          exact ih1 _ _ ls x125 g1_1 (show (0 : Int) ≤ x125.toInt ∧ x125.toInt ≤ 4 from ⟨by omega, by omega⟩) (by omega) (hP.sub (ws' := [(a0, .inr (4, [.int i0, .ref a1, .ref a2, .ref a3, .ref a4])), (a1, .inl (cI, 4, .inl xF0)), (a2, .inl (cI, 4, .inl xF1)), (a3, .inl (cI, 4, .inl xF2)), (a4, .inl (cI, 4, .inl g1_1)), (a5, .inr (1, [.int i1, .ref a6, .ref a7, .ref a8, .ref a9, .ref a10, .ref a11, .ref a12, .ref a13, .ref a14])), (a12, .inl (cI, 10, .inl xF10)), (a13, .inl (cI, 10, .inl xF11))]) [0, 1, 2, 3, 4, 5, 6, 7] rfl) (hD.sub (ws' := [(a0, .inr (4, [.int i0, .ref a1, .ref a2, .ref a3, .ref a4])), (a1, .inl (cI, 4, .inl xF0)), (a2, .inl (cI, 4, .inl xF1)), (a3, .inl (cI, 4, .inl xF2)), (a4, .inl (cI, 4, .inl g1_1)), (a5, .inr (1, [.int i1, .ref a6, .ref a7, .ref a8, .ref a9, .ref a10, .ref a11, .ref a12, .ref a13, .ref a14])), (a12, .inl (cI, 10, .inl xF10)), (a13, .inl (cI, 10, .inl xF11))]) [0, 1, 2, 3, 4, 5, 6, 7] (by decide) rfl) hS (lv_sub hl [2, 3, 0] rfl)
        · rw [ki_lt] at c124
          refine lv_iload_n hx hb dX4_goOn_21 rfl (lv_at hl 0 rfl) ?_
          refine lv_aload_n hx hb dX4_goOn_22 rfl (lv_at hl 2 rfl) ?_
          refine va_get (D := (dC, dI)) (ci := 1) (v := .int i1) (C := RX1) (T := TX1) (N := 10) hx hb hwd inlX1 hown hK hP 5 rfl rfl 0 (by decide) (hwd _ kr12_10) (fun _ h9 => h9) rfl dX4_goOn_23 ?_
          refine lv_icmp_ge (tgt := 78) hx hb dX4_goOn_26 (by decide) (fun c126 => ?_) (fun c126 => ?_)
          · rw [ki_le] at c126
            obtain ⟨x127, ex127⟩ : ∃ y : Int32, y = w2_1 + 1 := ⟨_, rfl⟩
            refine lv_iinc (v := x127) (lv' := [(2, .int x127), (3, .int x123), (0, .ref a0), (1, .ref a5)]) hx hb dX4_goOn_78 hl (k := 3) rfl (by rw [ex127]; rfl) (by decide) rfl (fun ls hl => ?_)
            have tx127 := ia_add (a := w2_1) (b := (1 : Int32)) (by omega) (by omega)
            rw [← ex127] at tx127
            refine lv_goto (tgt := 2) hx hb dX4_goOn_81 (by decide) ?_
            exact ih1 _ _ ls x127 g1_1 (show (0 : Int) ≤ x127.toInt ∧ x127.toInt ≤ 4 from ⟨by omega, by omega⟩) (by omega) (hP.sub (ws' := [(a0, .inr (4, [.int i0, .ref a1, .ref a2, .ref a3, .ref a4])), (a1, .inl (cI, 4, .inl xF0)), (a2, .inl (cI, 4, .inl xF1)), (a3, .inl (cI, 4, .inl xF2)), (a4, .inl (cI, 4, .inl g1_1)), (a5, .inr (1, [.int i1, .ref a6, .ref a7, .ref a8, .ref a9, .ref a10, .ref a11, .ref a12, .ref a13, .ref a14])), (a12, .inl (cI, 10, .inl xF10)), (a13, .inl (cI, 10, .inl xF11))]) [0, 1, 2, 3, 4, 5, 6, 7] rfl) (hD.sub (ws' := [(a0, .inr (4, [.int i0, .ref a1, .ref a2, .ref a3, .ref a4])), (a1, .inl (cI, 4, .inl xF0)), (a2, .inl (cI, 4, .inl xF1)), (a3, .inl (cI, 4, .inl xF2)), (a4, .inl (cI, 4, .inl g1_1)), (a5, .inr (1, [.int i1, .ref a6, .ref a7, .ref a8, .ref a9, .ref a10, .ref a11, .ref a12, .ref a13, .ref a14])), (a12, .inl (cI, 10, .inl xF10)), (a13, .inl (cI, 10, .inl xF11))]) [0, 1, 2, 3, 4, 5, 6, 7] (by decide) rfl) hS (lv_sub hl [2, 3, 0] rfl)
          · rw [ki_le] at c126
            refine lv_aload_n hx hb dX4_goOn_29 rfl (lv_at hl 2 rfl) ?_
            refine va_get (D := (dC, dI)) (ci := 1) (v := .ref a13) (C := RX1) (T := TX1) (N := 10) hx hb hwd inlX1 hown hK hP 5 rfl rfl 8 (by decide) (hwd _ kr13_6) (fun _ h9 => h9) rfl dX4_goOn_30 ?_
            refine lv_iload_n hx hb dX4_goOn_33 rfl (lv_at hl 0 rfl) ?_
            have h128 : vp_in x123 10 := (vp_of (by omega) (by omega))
            refine va_iald hx hb hK hP 7 0 rfl rfl h128 dX4_goOn_34 ?_
            refine lv_topi (fun x129 ex129 => ?_)
            refine lv_aload_n hx hb dX4_goOn_35 rfl (lv_at hl 1 rfl) ?_
            refine va_get (D := (dC, dI)) (ci := 4) (v := .ref a2) (C := RX4) (T := TX4) (N := 5) hx hb hwd inlX4 hown hK hP 0 rfl rfl 2 (by decide) (hwd _ kr13_18) (fun _ h9 => h9) rfl dX4_goOn_36 ?_
            refine lv_iload_n hx hb dX4_goOn_39 rfl (lv_at hl 3 rfl) ?_
            have h130 : vp_in w2_1 4 := (vp_of (by omega) (by omega))
            refine va_iald hx hb hK hP 2 0 rfl rfl h130 dX4_goOn_40 ?_
            refine lv_topi (fun x131 ex131 => ?_)
            refine lv_icmp_ge (tgt := 78) hx hb dX4_goOn_41 (by decide) (fun c132 => ?_) (fun c132 => ?_)
            · rw [ki_le] at c132
              obtain ⟨x133, ex133⟩ : ∃ y : Int32, y = w2_1 + 1 := ⟨_, rfl⟩
              refine lv_iinc (v := x133) (lv' := [(2, .int x133), (3, .int x123), (0, .ref a0), (1, .ref a5)]) hx hb dX4_goOn_78 hl (k := 3) rfl (by rw [ex133]; rfl) (by decide) rfl (fun ls hl => ?_)
              have tx133 := ia_add (a := w2_1) (b := (1 : Int32)) (by omega) (by omega)
              rw [← ex133] at tx133
              refine lv_goto (tgt := 2) hx hb dX4_goOn_81 (by decide) ?_
              exact ih1 _ _ ls x133 g1_1 (show (0 : Int) ≤ x133.toInt ∧ x133.toInt ≤ 4 from ⟨by omega, by omega⟩) (by omega) (hP.sub (ws' := [(a0, .inr (4, [.int i0, .ref a1, .ref a2, .ref a3, .ref a4])), (a1, .inl (cI, 4, .inl xF0)), (a2, .inl (cI, 4, .inl xF1)), (a3, .inl (cI, 4, .inl xF2)), (a4, .inl (cI, 4, .inl g1_1)), (a5, .inr (1, [.int i1, .ref a6, .ref a7, .ref a8, .ref a9, .ref a10, .ref a11, .ref a12, .ref a13, .ref a14])), (a12, .inl (cI, 10, .inl xF10)), (a13, .inl (cI, 10, .inl xF11))]) [0, 1, 2, 3, 4, 5, 6, 7] rfl) (hD.sub (ws' := [(a0, .inr (4, [.int i0, .ref a1, .ref a2, .ref a3, .ref a4])), (a1, .inl (cI, 4, .inl xF0)), (a2, .inl (cI, 4, .inl xF1)), (a3, .inl (cI, 4, .inl xF2)), (a4, .inl (cI, 4, .inl g1_1)), (a5, .inr (1, [.int i1, .ref a6, .ref a7, .ref a8, .ref a9, .ref a10, .ref a11, .ref a12, .ref a13, .ref a14])), (a12, .inl (cI, 10, .inl xF10)), (a13, .inl (cI, 10, .inl xF11))]) [0, 1, 2, 3, 4, 5, 6, 7] (by decide) rfl) hS (lv_sub hl [2, 3, 0] rfl)
            · rw [ki_le] at c132
              refine lv_aload_n hx hb dX4_goOn_44 rfl (lv_at hl 2 rfl) ?_
              refine va_get (D := (dC, dI)) (ci := 1) (v := .ref a12) (C := RX1) (T := TX1) (N := 10) hx hb hwd inlX1 hown hK hP 5 rfl rfl 7 (by decide) (hwd _ kr13_3) (fun _ h9 => h9) rfl dX4_goOn_45 ?_
              refine lv_iload_n hx hb dX4_goOn_48 rfl (lv_at hl 0 rfl) ?_
              have h134 : vp_in x123 10 := (vp_of (by omega) (by omega))
              refine va_iald hx hb hK hP 6 0 rfl rfl h134 dX4_goOn_49 ?_
              refine lv_topi (fun x135 ex135 => ?_)
              refine lv_aload_n hx hb dX4_goOn_50 rfl (lv_at hl 1 rfl) ?_
              refine va_get (D := (dC, dI)) (ci := 4) (v := .ref a2) (C := RX4) (T := TX4) (N := 5) hx hb hwd inlX4 hown hK hP 0 rfl rfl 2 (by decide) (hwd _ kr13_18) (fun _ h9 => h9) rfl dX4_goOn_51 ?_
              refine lv_iload_n hx hb dX4_goOn_54 rfl (lv_at hl 3 rfl) ?_
              have h136 : vp_in w2_1 4 := (vp_of (by omega) (by omega))
              refine va_iald hx hb hK hP 2 0 rfl rfl h136 dX4_goOn_55 ?_
              refine lv_topi (nm_r (e' := x131) ex131.symm ?_)
              refine lv_icmp_lt (tgt := 78) hx hb dX4_goOn_56 (by decide) (fun c137 => ?_) (fun c137 => ?_)
              · rw [ki_lt] at c137
                obtain ⟨x138, ex138⟩ : ∃ y : Int32, y = w2_1 + 1 := ⟨_, rfl⟩
                refine lv_iinc (v := x138) (lv' := [(2, .int x138), (3, .int x123), (0, .ref a0), (1, .ref a5)]) hx hb dX4_goOn_78 hl (k := 3) rfl (by rw [ex138]; rfl) (by decide) rfl (fun ls hl => ?_)
                have tx138 := ia_add (a := w2_1) (b := (1 : Int32)) (by omega) (by omega)
                rw [← ex138] at tx138
                refine lv_goto (tgt := 2) hx hb dX4_goOn_81 (by decide) ?_
                exact ih1 _ _ ls x138 g1_1 (show (0 : Int) ≤ x138.toInt ∧ x138.toInt ≤ 4 from ⟨by omega, by omega⟩) (by omega) (hP.sub (ws' := [(a0, .inr (4, [.int i0, .ref a1, .ref a2, .ref a3, .ref a4])), (a1, .inl (cI, 4, .inl xF0)), (a2, .inl (cI, 4, .inl xF1)), (a3, .inl (cI, 4, .inl xF2)), (a4, .inl (cI, 4, .inl g1_1)), (a5, .inr (1, [.int i1, .ref a6, .ref a7, .ref a8, .ref a9, .ref a10, .ref a11, .ref a12, .ref a13, .ref a14])), (a12, .inl (cI, 10, .inl xF10)), (a13, .inl (cI, 10, .inl xF11))]) [0, 1, 2, 3, 4, 5, 6, 7] rfl) (hD.sub (ws' := [(a0, .inr (4, [.int i0, .ref a1, .ref a2, .ref a3, .ref a4])), (a1, .inl (cI, 4, .inl xF0)), (a2, .inl (cI, 4, .inl xF1)), (a3, .inl (cI, 4, .inl xF2)), (a4, .inl (cI, 4, .inl g1_1)), (a5, .inr (1, [.int i1, .ref a6, .ref a7, .ref a8, .ref a9, .ref a10, .ref a11, .ref a12, .ref a13, .ref a14])), (a12, .inl (cI, 10, .inl xF10)), (a13, .inl (cI, 10, .inl xF11))]) [0, 1, 2, 3, 4, 5, 6, 7] (by decide) rfl) hS (lv_sub hl [2, 3, 0] rfl)
              · rw [ki_lt] at c137
                refine lv_aload_n hx hb dX4_goOn_59 rfl (lv_at hl 1 rfl) ?_
                refine va_get (D := (dC, dI)) (ci := 4) (v := .ref a4) (C := RX4) (T := TX4) (N := 5) hx hb hwd inlX4 hown hK hP 0 rfl rfl 4 (by decide) (hwd _ kr13_21) (fun _ h9 => h9) rfl dX4_goOn_60 ?_
                refine lv_iload_n hx hb dX4_goOn_63 rfl (lv_at hl 3 rfl) ?_
                refine lv_aload_n hx hb dX4_goOn_64 rfl (lv_at hl 1 rfl) ?_
                refine lv_iload_n hx hb dX4_goOn_65 rfl (lv_at hl 3 rfl) ?_
                refine lv_aload_n hx hb dX4_goOn_66 rfl (lv_at hl 1 rfl) ?_
                refine va_get (D := (dC, dI)) (ci := 4) (v := .ref a4) (C := RX4) (T := TX4) (N := 5) hx hb hwd inlX4 hown hK hP 0 rfl rfl 4 (by decide) (hwd _ kr13_21) (fun _ h9 => h9) rfl dX4_goOn_67 ?_
                refine lv_iload_n hx hb dX4_goOn_70 rfl (lv_at hl 3 rfl) ?_
                have h139 : vp_in w2_1 4 := (vp_of (by omega) (by omega))
                refine va_iald hx hb hK hP 4 0 rfl rfl h139 dX4_goOn_71 ?_
                refine lv_topi (fun x140 ex140 => ?_)
                refine lv_iconst (v := 1) hx hb dX4_goOn_72 (by decide) ?_
                refine lv_iadd hx hb dX4_goOn_73 ?_
                refine lv_topi (fun x141 ex141 => ?_)
                have hPc := hP.sub (ws' := [(a0, .inr (4, [.int i0, .ref a1, .ref a2, .ref a3, .ref a4])), (a3, .inl (cI, 4, .inl xF2))]) [0, 3] rfl
                have hDc := hD.sub (ws' := [(a0, .inr (4, [.int i0, .ref a1, .ref a2, .ref a3, .ref a4])), (a3, .inl (cI, 4, .inl xF2))]) [0, 3] (by decide) rfl
                have hFc := va_free (wc := [(a0, .inr (4, [.int i0, .ref a1, .ref a2, .ref a3, .ref a4])), (a3, .inl (cI, 4, .inl xF2))]) hD hS hA [0, 3] rfl
                refine va_calli (va_runV (As := [.int w2_1, .int x141]) (rest := [.int w2_1, .ref a4]) ⟨hx, hb, hml, hown, hwd⟩ (s_X4_roundByTeeth l dC dI cI cZ cB cJ cM cG a0 a1 a2 a3 a4 i0 xF2 w2_1 x141 H.size (show (0 : Int) ≤ i0.toInt ∧ i0.toInt ≤ 4 from p_0) (show (0 : Int) ≤ w2_1.toInt ∧ w2_1.toInt ≤ 3 from ⟨by omega, by omega⟩)) (cwV 2 hwd (gV kr33_15 kr33_16 kr2_2 kr5_21 kr33_17) rfl rfl rfl (by decide +kernel) ⟨Nat.le_of_ble_eq_true rfl, Nat.le_of_ble_eq_true rfl⟩) (kPreV hPc hK hDc (ci := 4) (q0 := 0) rfl rfl) rfl rfl hl.1 rfl (lv_room (Nat.le_of_ble_eq_true rfl)) dX4_goOn_74 ⟨Nat.le_of_ble_eq_true rfl, Nat.le_of_ble_eq_true rfl⟩) hS (fun q _ h => hFc q h) hFc (fun r142 u143 t H1 locs ht9 hvm hw hB hz1 hk1 hS => ?_)
                obtain ⟨hP1, hD1⟩ := hB
                rw [ht9] at hP1
                obtain ⟨hP, hD⟩ := va_join (wr := [(a1, .inl (cI, 4, .inl xF0)), (a2, .inl (cI, 4, .inl xF1)), (a4, .inl (cI, 4, .inl g1_1)), (a5, .inr (1, [.int i1, .ref a6, .ref a7, .ref a8, .ref a9, .ref a10, .ref a11, .ref a12, .ref a13, .ref a14])), (a12, .inl (cI, 10, .inl xF10)), (a13, .inl (cI, 10, .inl xF11))]) (w1 := [(a0, .inr (4, [.int i0, .ref a1, .ref a2, .ref a3, .ref a4])), (a3, .inl (cI, 4, .inl xF2))]) hP hD [0, 3] [1, 2, 4, 5, 6, 7] rfl rfl (by decide) (by decide) hk1 hFc hP1 hD1
                generalize H1 = H at hP hS ⊢
                replace hP : va_P (dC, dI) vwCl [(a1, .inl (cI, 4, .inl xF0)), (a2, .inl (cI, 4, .inl xF1)), (a4, .inl (cI, 4, .inl g1_1)), (a5, .inr (1, [.int i1, .ref a6, .ref a7, .ref a8, .ref a9, .ref a10, .ref a11, .ref a12, .ref a13, .ref a14])), (a12, .inl (cI, 10, .inl xF10)), (a13, .inl (cI, 10, .inl xF11)), (a0, .inr (4, [.int i0, .ref a1, .ref a2, .ref a3, .ref a4])), (a3, .inl (cI, 4, .inl xF2))] H := hP
                replace hD : va_D A [(a1, .inl (cI, 4, .inl xF0)), (a2, .inl (cI, 4, .inl xF1)), (a4, .inl (cI, 4, .inl g1_1)), (a5, .inr (1, [.int i1, .ref a6, .ref a7, .ref a8, .ref a9, .ref a10, .ref a11, .ref a12, .ref a13, .ref a14])), (a12, .inl (cI, 10, .inl xF10)), (a13, .inl (cI, 10, .inl xF11)), (a0, .inr (4, [.int i0, .ref a1, .ref a2, .ref a3, .ref a4])), (a3, .inl (cI, 4, .inl xF2))] := hD
                refine va_iast hx hb hK hP hD hS 2 0 rfl rfl (vp_of (by omega) (by omega)) dX4_goOn_77 (fun H locs hP hD hS => ?_)
                obtain ⟨f144, ef144⟩ : ∃ f, f = upd g1_1 w2_1.toNatClampNeg r142 := ⟨_, rfl⟩
                replace hP : va_P (dC, dI) vwCl [(a1, .inl (cI, 4, .inl xF0)), (a2, .inl (cI, 4, .inl xF1)), (a4, .inl (cI, 4, .inl f144)), (a5, .inr (1, [.int i1, .ref a6, .ref a7, .ref a8, .ref a9, .ref a10, .ref a11, .ref a12, .ref a13, .ref a14])), (a12, .inl (cI, 10, .inl xF10)), (a13, .inl (cI, 10, .inl xF11)), (a0, .inr (4, [.int i0, .ref a1, .ref a2, .ref a3, .ref a4])), (a3, .inl (cI, 4, .inl xF2))] H := by rw [ef144]; exact hP
                replace hD : va_D A [(a1, .inl (cI, 4, .inl xF0)), (a2, .inl (cI, 4, .inl xF1)), (a4, .inl (cI, 4, .inl f144)), (a5, .inr (1, [.int i1, .ref a6, .ref a7, .ref a8, .ref a9, .ref a10, .ref a11, .ref a12, .ref a13, .ref a14])), (a12, .inl (cI, 10, .inl xF10)), (a13, .inl (cI, 10, .inl xF11)), (a0, .inr (4, [.int i0, .ref a1, .ref a2, .ref a3, .ref a4])), (a3, .inl (cI, 4, .inl xF2))] := by rw [ef144]; exact hD
                obtain ⟨x145, ex145⟩ : ∃ y : Int32, y = w2_1 + 1 := ⟨_, rfl⟩
                refine lv_iinc (v := x145) (lv' := [(2, .int x145), (3, .int x123), (0, .ref a0), (1, .ref a5)]) hx hb dX4_goOn_78 hl (k := 3) rfl (by rw [ex145]; rfl) (by decide) rfl (fun ls hl => ?_)
                have tx145 := ia_add (a := w2_1) (b := (1 : Int32)) (by omega) (by omega)
                rw [← ex145] at tx145
                refine lv_goto (tgt := 2) hx hb dX4_goOn_81 (by decide) ?_
                exact ih1 _ _ ls x145 f144 (show (0 : Int) ≤ x145.toInt ∧ x145.toInt ≤ 4 from ⟨by omega, by omega⟩) (by omega) (hP.sub (ws' := [(a0, .inr (4, [.int i0, .ref a1, .ref a2, .ref a3, .ref a4])), (a1, .inl (cI, 4, .inl xF0)), (a2, .inl (cI, 4, .inl xF1)), (a3, .inl (cI, 4, .inl xF2)), (a4, .inl (cI, 4, .inl f144)), (a5, .inr (1, [.int i1, .ref a6, .ref a7, .ref a8, .ref a9, .ref a10, .ref a11, .ref a12, .ref a13, .ref a14])), (a12, .inl (cI, 10, .inl xF10)), (a13, .inl (cI, 10, .inl xF11))]) [6, 0, 1, 7, 2, 3, 4, 5] rfl) (hD.sub (ws' := [(a0, .inr (4, [.int i0, .ref a1, .ref a2, .ref a3, .ref a4])), (a1, .inl (cI, 4, .inl xF0)), (a2, .inl (cI, 4, .inl xF1)), (a3, .inl (cI, 4, .inl xF2)), (a4, .inl (cI, 4, .inl f144)), (a5, .inr (1, [.int i1, .ref a6, .ref a7, .ref a8, .ref a9, .ref a10, .ref a11, .ref a12, .ref a13, .ref a14])), (a12, .inl (cI, 10, .inl xF10)), (a13, .inl (cI, 10, .inl xF11))]) [6, 0, 1, 7, 2, 3, 4, 5] (by decide) rfl) hS (lv_sub hl [2, 3, 0] rfl)
  exact lp1 _ _ _ ls (0) xF3 (show (0 : Int) ≤ (0 : Int32).toInt ∧ (0 : Int32).toInt ≤ 4 from ⟨by omega, by omega⟩) (Nat.lt_succ_self _) (hP.sub (ws' := [(a0, .inr (4, [.int i0, .ref a1, .ref a2, .ref a3, .ref a4])), (a1, .inl (cI, 4, .inl xF0)), (a2, .inl (cI, 4, .inl xF1)), (a3, .inl (cI, 4, .inl xF2)), (a4, .inl (cI, 4, .inl xF3)), (a5, .inr (1, [.int i1, .ref a6, .ref a7, .ref a8, .ref a9, .ref a10, .ref a11, .ref a12, .ref a13, .ref a14])), (a12, .inl (cI, 10, .inl xF10)), (a13, .inl (cI, 10, .inl xF11))]) [0, 1, 2, 3, 4, 5, 6, 7] rfl) (hD.sub (ws' := [(a0, .inr (4, [.int i0, .ref a1, .ref a2, .ref a3, .ref a4])), (a1, .inl (cI, 4, .inl xF0)), (a2, .inl (cI, 4, .inl xF1)), (a3, .inl (cI, 4, .inl xF2)), (a4, .inl (cI, 4, .inl xF3)), (a5, .inr (1, [.int i1, .ref a6, .ref a7, .ref a8, .ref a9, .ref a10, .ref a11, .ref a12, .ref a13, .ref a14])), (a12, .inl (cI, 10, .inl xF10)), (a13, .inl (cI, 10, .inl xF11))]) [0, 1, 2, 3, 4, 5, 6, 7] (by decide) rfl) hS (lv_sub hl [1, 2, 0] rfl)
theorem dX4_areBack_0 : decode cX4_areBack 0 = .ok (.iconst 0, 1) := by decide +kernel
theorem dX4_areBack_1 : decode cX4_areBack 1 = .ok (.istore_n 3, 1) := by decide +kernel
theorem dX4_areBack_2 : decode cX4_areBack 2 = .ok (.iload_n 3, 1) := by decide +kernel
theorem dX4_areBack_3 : decode cX4_areBack 3 = .ok (.aload_n 0, 1) := by decide +kernel
theorem dX4_areBack_4 : decode cX4_areBack 4 = .ok (.getfield 24, 3) := by decide +kernel
theorem dX4_areBack_7 : decode cX4_areBack 7 = .ok (.if_icmp .ge 24, 3) := by decide +kernel
theorem dX4_areBack_10 : decode cX4_areBack 10 = .ok (.aload_n 0, 1) := by decide +kernel
theorem dX4_areBack_11 : decode cX4_areBack 11 = .ok (.iload_n 3, 1) := by decide +kernel
theorem dX4_areBack_12 : decode cX4_areBack 12 = .ok (.aload_n 1, 1) := by decide +kernel
theorem dX4_areBack_13 : decode cX4_areBack 13 = .ok (.iload_n 3, 1) := by decide +kernel
theorem dX4_areBack_14 : decode cX4_areBack 14 = .ok (.iaload, 1) := by decide +kernel
theorem dX4_areBack_15 : decode cX4_areBack 15 = .ok (.iload_n 2, 1) := by decide +kernel
theorem dX4_areBack_16 : decode cX4_areBack 16 = .ok (.imul, 1) := by decide +kernel
theorem dX4_areBack_17 : decode cX4_areBack 17 = .ok (.invokevirtual 63, 3) := by decide +kernel
theorem dX4_areBack_20 : decode cX4_areBack 20 = .ok (.ifCond .eq 5, 3) := by decide +kernel
theorem dX4_areBack_23 : decode cX4_areBack 23 = .ok (.iconst 0, 1) := by decide +kernel
theorem dX4_areBack_24 : decode cX4_areBack 24 = .ok (.ireturn, 1) := by decide +kernel
theorem dX4_areBack_25 : decode cX4_areBack 25 = .ok (.iinc 3 1, 3) := by decide +kernel
theorem dX4_areBack_28 : decode cX4_areBack 28 = .ok (.goto (-26), 3) := by decide +kernel
theorem dX4_areBack_31 : decode cX4_areBack 31 = .ok (.iconst 1, 1) := by decide +kernel
theorem dX4_areBack_32 : decode cX4_areBack 32 = .ok (.ireturn, 1) := by decide +kernel
set_option maxHeartbeats 4000000 in
set_option maxRecDepth 100000 in
theorem s_X4_areBack (l : Launch) (dC : Nat → ClassId) (dI : Nat → Nat → Nat) (cI cZ cB cJ cM cG : ClassId) (a0 a1 a2 a3 a4 a5 : Nat) (i0 : Int32) (xF2 xF4 : Nat → Int32) (p1 : Int32) (sz : Nat) (p_0 : (0 : Int) ≤ i0.toInt ∧ i0.toInt ≤ 4) : Met l yX4_areBack (kw yX4_areBack cX4_areBack 4 (some .boolean)) ({ frames := 1, cells := 0, slots := 0, locals := 22 } : Room) (va_Pc [.ref a0, .ref a5, .int p1] (kPre dC dI [(cI, .int), (cZ, .boolean), (cB, .byte), (cJ, .long), (cM, .object RX2), (cG, .array .int)] [(a0, .inr (4, [.int i0, .ref a1, .ref a2, .ref a3, .ref a4])), (a3, .inl (cI, 4, .inl xF2)), (a5, .inl (cI, 4, .inl xF4))] sz)) (va_Qi (fun (r : Int32) (u9 : Unit) => ((0 : Int) ≤ r.toInt ∧ r.toInt ≤ 1) ∧ True) (fun u9 t => va_P (dC, dI) vwCl [(a0, .inr (4, [.int i0, .ref a1, .ref a2, .ref a3, .ref a4])), (a3, .inl (cI, 4, .inl xF2)), (a5, .inl (cI, 4, .inl xF4))] t.heap ∧ va_D (va_A [(a0, .inr (4, [.int i0, .ref a1, .ref a2, .ref a3, .ref a4])), (a3, .inl (cI, 4, .inl xF2)), (a5, .inl (cI, 4, .inl xF4))] sz) [(a0, .inr (4, [.int i0, .ref a1, .ref a2, .ref a3, .ref a4])), (a3, .inl (cI, 4, .inl xF2)), (a5, .inl (cI, 4, .inl xF4))]) (va_A [(a0, .inr (4, [.int i0, .ref a1, .ref a2, .ref a3, .ref a4])), (a3, .inl (cI, 4, .inl xF2)), (a5, .inl (cI, 4, .inl xF4))] sz)) 0 0 (va_A [(a0, .inr (4, [.int i0, .ref a1, .ref a2, .ref a3, .ref a4])), (a3, .inl (cI, 4, .inl xF2)), (a5, .inl (cI, 4, .inl xF4))] sz) := by
  refine kEnter (by decide) (Nat.le_of_ble_eq_true rfl) ?_
  intro p e s m below meth c ls hx hb hr hml hown hlocks hin hwd hsz hP hK hD hl
  subst hsz
  generalize hAe : va_A [(a0, .inr (4, [.int i0, .ref a1, .ref a2, .ref a3, .ref a4])), (a3, .inl (cI, 4, .inl xF2)), (a5, .inl (cI, 4, .inl xF4))] s.heap.size = A at hD ⊢
  have hA : ∀ q : Nat, s.heap.size ≤ q → A q := fun q h => by rw [← hAe]; exact Or.inr h
  have hS : va_S A s.heap s.heap [] := va_S.rf
  have hl : lv_has ls 4 [(0, .ref a0), (1, .ref a5), (2, .int p1)] := hl
  obtain ⟨Q, hQ⟩ : ∃ Q, Q = MQ below (va_Qi (fun (r : Int32) (u9 : Unit) => ((0 : Int) ≤ r.toInt ∧ r.toInt ≤ 1) ∧ True) (fun u9 t => va_P (dC, dI) vwCl [(a0, .inr (4, [.int i0, .ref a1, .ref a2, .ref a3, .ref a4])), (a3, .inl (cI, 4, .inl xF2)), (a5, .inl (cI, 4, .inl xF4))] t.heap ∧ va_D A [(a0, .inr (4, [.int i0, .ref a1, .ref a2, .ref a3, .ref a4])), (a3, .inl (cI, 4, .inl xF2)), (a5, .inl (cI, 4, .inl xF4))]) A) ([.ref a0, .ref a5, .int p1] : List Value).toArray s 0 0 A := ⟨_, rfl⟩
  rw [← hQ]
  have k0 : (0 : Int32).toInt = 0 := by decide
  have k1 : (1 : Int32).toInt = 1 := by decide
  refine lv_iconst (v := 0) hx hb dX4_areBack_0 (by decide) ?_
  refine lv_istore_n (lv' := [(3, .int 0), (0, .ref a0), (1, .ref a5), (2, .int p1)]) hx hb dX4_areBack_1 rfl hl (by decide) rfl (fun ls hl => ?_)
  have lp1 : ∀ (d : Nat), ∀ (H : Heap) (locs : List Loc) (ls : Array Slot) (w3_1 : Int32), ((0 : Int) ≤ w3_1.toInt ∧ w3_1.toInt ≤ 4) → (4 - w3_1.toInt).toNat < d → va_P (dC, dI) vwCl [(a0, .inr (4, [.int i0, .ref a1, .ref a2, .ref a3, .ref a4])), (a3, .inl (cI, 4, .inl xF2)), (a5, .inl (cI, 4, .inl xF4))] H → va_D A [(a0, .inr (4, [.int i0, .ref a1, .ref a2, .ref a3, .ref a4])), (a3, .inl (cI, 4, .inl xF2)), (a5, .inl (cI, 4, .inl xF4))] → va_S A s.heap H locs → lv_has ls 4 [(0, .ref a0), (1, .ref a5), (2, .int p1), (3, .int w3_1)] → W p l e ({ frames := 1, cells := 0, slots := 0, locals := 22 } : Room) s m ([.ref a0, .ref a5, .int p1] : List Value).toArray below meth c H locs 0 0 Q (F0 m 2 ls []) := by
    intro d
    induction d with
    | zero =>
      intro H locs ls w3_1 hr_w3_1 hm hP hD hS hl
      omega
    | succ d ih1 =>
      intro H locs ls w3_1 hr_w3_1 hm hP hD hS hl
      refine lv_iload_n hx hb dX4_areBack_2 rfl (lv_at hl 3 rfl) ?_
      refine lv_aload_n hx hb dX4_areBack_3 rfl (lv_at hl 0 rfl) ?_
      refine va_get (D := (dC, dI)) (ci := 4) (v := .int i0) (C := RX4) (T := TX4) (N := 5) hx hb hwd inlX4 hown hK hP 0 rfl rfl 0 (by decide) (hwd _ kr13_13) (fun _ h9 => h9) rfl dX4_areBack_4 ?_
      refine lv_icmp_ge (tgt := 31) hx hb dX4_areBack_7 (by decide) (fun c40 => ?_) (fun c40 => ?_)
      · rw [ki_le] at c40
        refine lv_iconst (v := 1) hx hb dX4_areBack_31 (by decide) ?_
        have hP9 := hP.sub (ws' := [(a0, .inr (4, [.int i0, .ref a1, .ref a2, .ref a3, .ref a4])), (a3, .inl (cI, 4, .inl xF2)), (a5, .inl (cI, 4, .inl xF4))]) [0, 1, 2] rfl
        have hD9 := hD.sub (ws' := [(a0, .inr (4, [.int i0, .ref a1, .ref a2, .ref a3, .ref a4])), (a3, .inl (cI, 4, .inl xF2)), (a5, .inl (cI, 4, .inl xF4))]) [0, 1, 2] (by decide) rfl
        rw [hQ]
        exact W.zret (v := 1) hx hb hr (by decide) (fun t ht hW => ⟨⟨1, (), rfl, ⟨(show (0 : Int) ≤ (1 : Int32).toInt ∧ (1 : Int32).toInt ≤ 1 from ⟨by omega, by omega⟩), trivial⟩, (by rw [ht]; exact hP9), hD9⟩, hS.F ht⟩) hS.2.2 dX4_areBack_32
      · rw [ki_le] at c40
        refine lv_aload_n hx hb dX4_areBack_10 rfl (lv_at hl 0 rfl) ?_
        refine lv_iload_n hx hb dX4_areBack_11 rfl (lv_at hl 3 rfl) ?_
        refine lv_aload_n hx hb dX4_areBack_12 rfl (lv_at hl 1 rfl) ?_
        refine lv_iload_n hx hb dX4_areBack_13 rfl (lv_at hl 3 rfl) ?_
        have h41 : vp_in w3_1 4 := (vp_of (by omega) (by omega))
        refine va_iald hx hb hK hP 2 0 rfl rfl h41 dX4_areBack_14 ?_
        refine lv_topi (fun x42 ex42 => ?_)
        refine lv_iload_n hx hb dX4_areBack_15 rfl (lv_at hl 2 rfl) ?_
        refine lv_imul hx hb dX4_areBack_16 ?_
        refine lv_topi (fun x43 ex43 => ?_)
        have hPc := hP.sub (ws' := [(a0, .inr (4, [.int i0, .ref a1, .ref a2, .ref a3, .ref a4])), (a3, .inl (cI, 4, .inl xF2))]) [0, 1] rfl
        have hDc := hD.sub (ws' := [(a0, .inr (4, [.int i0, .ref a1, .ref a2, .ref a3, .ref a4])), (a3, .inl (cI, 4, .inl xF2))]) [0, 1] (by decide) rfl
        have hFc := va_free (wc := [(a0, .inr (4, [.int i0, .ref a1, .ref a2, .ref a3, .ref a4])), (a3, .inl (cI, 4, .inl xF2))]) hD hS hA [0, 1] rfl
        refine va_calli (va_runV (As := [.int w3_1, .int x43]) (rest := []) ⟨hx, hb, hml, hown, hwd⟩ (s_X4_roundByTeeth l dC dI cI cZ cB cJ cM cG a0 a1 a2 a3 a4 i0 xF2 w3_1 x43 H.size (show (0 : Int) ≤ i0.toInt ∧ i0.toInt ≤ 4 from p_0) (show (0 : Int) ≤ w3_1.toInt ∧ w3_1.toInt ≤ 3 from ⟨by omega, by omega⟩)) (cwV 2 hwd (gV kr33_15 kr33_16 kr2_2 kr5_21 kr33_17) rfl rfl rfl (by decide +kernel) ⟨Nat.le_of_ble_eq_true rfl, Nat.le_of_ble_eq_true rfl⟩) (kPreV hPc hK hDc (ci := 4) (q0 := 0) rfl rfl) rfl rfl hl.1 rfl (lv_room (Nat.le_of_ble_eq_true rfl)) dX4_areBack_17 ⟨Nat.le_of_ble_eq_true rfl, Nat.le_of_ble_eq_true rfl⟩) hS (fun q _ h => hFc q h) hFc (fun r44 u45 t H1 locs ht9 hvm hw hB hz1 hk1 hS => ?_)
        obtain ⟨hP1, hD1⟩ := hB
        rw [ht9] at hP1
        obtain ⟨hP, hD⟩ := va_join (wr := [(a5, .inl (cI, 4, .inl xF4))]) (w1 := [(a0, .inr (4, [.int i0, .ref a1, .ref a2, .ref a3, .ref a4])), (a3, .inl (cI, 4, .inl xF2))]) hP hD [0, 1] [2] rfl rfl (by decide) (by decide) hk1 hFc hP1 hD1
        generalize H1 = H at hP hS ⊢
        replace hP : va_P (dC, dI) vwCl [(a5, .inl (cI, 4, .inl xF4)), (a0, .inr (4, [.int i0, .ref a1, .ref a2, .ref a3, .ref a4])), (a3, .inl (cI, 4, .inl xF2))] H := hP
        replace hD : va_D A [(a5, .inl (cI, 4, .inl xF4)), (a0, .inr (4, [.int i0, .ref a1, .ref a2, .ref a3, .ref a4])), (a3, .inl (cI, 4, .inl xF2))] := hD
        refine lv_if_eq (tgt := 25) hx hb dX4_areBack_20 (by decide) (fun c46 => ?_) (fun c46 => ?_)
        · rw [ki_eq] at c46
          obtain ⟨x47, ex47⟩ : ∃ y : Int32, y = w3_1 + 1 := ⟨_, rfl⟩
          refine lv_iinc (v := x47) (lv' := [(3, .int x47), (0, .ref a0), (1, .ref a5), (2, .int p1)]) hx hb dX4_areBack_25 hl (k := 3) rfl (by rw [ex47]; rfl) (by decide) rfl (fun ls hl => ?_)
          have tx47 := ia_add (a := w3_1) (b := (1 : Int32)) (by omega) (by omega)
          rw [← ex47] at tx47
          refine lv_goto (tgt := 2) hx hb dX4_areBack_28 (by decide) ?_
          exact ih1 _ _ ls x47 (show (0 : Int) ≤ x47.toInt ∧ x47.toInt ≤ 4 from ⟨by omega, by omega⟩) (by omega) (hP.sub (ws' := [(a0, .inr (4, [.int i0, .ref a1, .ref a2, .ref a3, .ref a4])), (a3, .inl (cI, 4, .inl xF2)), (a5, .inl (cI, 4, .inl xF4))]) [1, 2, 0] rfl) (hD.sub (ws' := [(a0, .inr (4, [.int i0, .ref a1, .ref a2, .ref a3, .ref a4])), (a3, .inl (cI, 4, .inl xF2)), (a5, .inl (cI, 4, .inl xF4))]) [1, 2, 0] (by decide) rfl) hS (lv_sub hl [1, 2, 3, 0] rfl)
        · rw [ki_eq] at c46
          refine lv_iconst (v := 0) hx hb dX4_areBack_23 (by decide) ?_
          have hP9 := hP.sub (ws' := [(a0, .inr (4, [.int i0, .ref a1, .ref a2, .ref a3, .ref a4])), (a3, .inl (cI, 4, .inl xF2)), (a5, .inl (cI, 4, .inl xF4))]) [1, 2, 0] rfl
          have hD9 := hD.sub (ws' := [(a0, .inr (4, [.int i0, .ref a1, .ref a2, .ref a3, .ref a4])), (a3, .inl (cI, 4, .inl xF2)), (a5, .inl (cI, 4, .inl xF4))]) [1, 2, 0] (by decide) rfl
          rw [hQ]
          exact W.zret (v := 0) hx hb hr (by decide) (fun t ht hW => ⟨⟨0, (), rfl, ⟨(show (0 : Int) ≤ (0 : Int32).toInt ∧ (0 : Int32).toInt ≤ 1 from ⟨by omega, by omega⟩), trivial⟩, (by rw [ht]; exact hP9), hD9⟩, hS.F ht⟩) hS.2.2 dX4_areBack_24
  exact lp1 _ _ _ ls (0) (show (0 : Int) ≤ (0 : Int32).toInt ∧ (0 : Int32).toInt ≤ 4 from ⟨by omega, by omega⟩) (Nat.lt_succ_self _) (hP.sub (ws' := [(a0, .inr (4, [.int i0, .ref a1, .ref a2, .ref a3, .ref a4])), (a3, .inl (cI, 4, .inl xF2)), (a5, .inl (cI, 4, .inl xF4))]) [0, 1, 2] rfl) (hD.sub (ws' := [(a0, .inr (4, [.int i0, .ref a1, .ref a2, .ref a3, .ref a4])), (a3, .inl (cI, 4, .inl xF2)), (a5, .inl (cI, 4, .inl xF4))]) [0, 1, 2] (by decide) rfl) hS (lv_sub hl [1, 2, 3, 0] rfl)
theorem dX1_movedOf_0 : decode cX1_movedOf 0 = .ok (.aload_n 0, 1) := by decide +kernel
theorem dX1_movedOf_1 : decode cX1_movedOf 1 = .ok (.getfield 36, 3) := by decide +kernel
theorem dX1_movedOf_4 : decode cX1_movedOf 4 = .ok (.iload_n 2, 1) := by decide +kernel
theorem dX1_movedOf_5 : decode cX1_movedOf 5 = .ok (.aload_n 0, 1) := by decide +kernel
theorem dX1_movedOf_6 : decode cX1_movedOf 6 = .ok (.getfield 27, 3) := by decide +kernel
theorem dX1_movedOf_9 : decode cX1_movedOf 9 = .ok (.iload_n 1, 1) := by decide +kernel
theorem dX1_movedOf_10 : decode cX1_movedOf 10 = .ok (.iaload, 1) := by decide +kernel
theorem dX1_movedOf_11 : decode cX1_movedOf 11 = .ok (.isub, 1) := by decide +kernel
theorem dX1_movedOf_12 : decode cX1_movedOf 12 = .ok (.bipush 21, 2) := by decide +kernel
theorem dX1_movedOf_14 : decode cX1_movedOf 14 = .ok (.invokestatic 109, 3) := by decide +kernel
theorem dX1_movedOf_17 : decode cX1_movedOf 17 = .ok (.bipush 10, 2) := by decide +kernel
theorem dX1_movedOf_19 : decode cX1_movedOf 19 = .ok (.imul, 1) := by decide +kernel
theorem dX1_movedOf_20 : decode cX1_movedOf 20 = .ok (.iload_n 1, 1) := by decide +kernel
theorem dX1_movedOf_21 : decode cX1_movedOf 21 = .ok (.iadd, 1) := by decide +kernel
theorem dX1_movedOf_22 : decode cX1_movedOf 22 = .ok (.iaload, 1) := by decide +kernel
theorem dX1_movedOf_23 : decode cX1_movedOf 23 = .ok (.ireturn, 1) := by decide +kernel
set_option maxHeartbeats 4000000 in
set_option maxRecDepth 100000 in
theorem s_X1_movedOf (l : Launch) (dC : Nat → ClassId) (dI : Nat → Nat → Nat) (cI cZ cB cJ cM cG : ClassId) (a0 a1 a2 a3 a4 a5 a6 a7 a8 a9 : Nat) (i0 : Int32) (xF5 xF8 : Nat → Int32) (p0 p1 : Int32) (sz : Nat) (p_0 : (0 : Int) ≤ i0.toInt ∧ i0.toInt ≤ 10) (p_1 : (0 : Int) ≤ p0.toInt ∧ p0.toInt ≤ 9) : Met l yX1_movedOf (kw yX1_movedOf cX1_movedOf 3 (some .int)) ({ frames := 1, cells := 0, slots := 0, locals := 22 } : Room) (va_Pc [.ref a0, .int p0, .int p1] (kPre dC dI [(cI, .int), (cZ, .boolean), (cB, .byte), (cJ, .long), (cM, .object RX2), (cG, .array .int)] [(a0, .inr (1, [.int i0, .ref a1, .ref a2, .ref a3, .ref a4, .ref a5, .ref a6, .ref a7, .ref a8, .ref a9])), (a6, .inl (cI, 10, .inl xF5)), (a9, .inl (cI, 210, .inl xF8))] sz)) (va_Qi (fun (r : Int32) (u9 : Unit) => True) (fun u9 t => va_P (dC, dI) vwCl [(a0, .inr (1, [.int i0, .ref a1, .ref a2, .ref a3, .ref a4, .ref a5, .ref a6, .ref a7, .ref a8, .ref a9])), (a6, .inl (cI, 10, .inl xF5)), (a9, .inl (cI, 210, .inl xF8))] t.heap ∧ va_D (va_A [(a0, .inr (1, [.int i0, .ref a1, .ref a2, .ref a3, .ref a4, .ref a5, .ref a6, .ref a7, .ref a8, .ref a9])), (a6, .inl (cI, 10, .inl xF5)), (a9, .inl (cI, 210, .inl xF8))] sz) [(a0, .inr (1, [.int i0, .ref a1, .ref a2, .ref a3, .ref a4, .ref a5, .ref a6, .ref a7, .ref a8, .ref a9])), (a6, .inl (cI, 10, .inl xF5)), (a9, .inl (cI, 210, .inl xF8))]) (va_A [(a0, .inr (1, [.int i0, .ref a1, .ref a2, .ref a3, .ref a4, .ref a5, .ref a6, .ref a7, .ref a8, .ref a9])), (a6, .inl (cI, 10, .inl xF5)), (a9, .inl (cI, 210, .inl xF8))] sz)) 0 0 (va_A [(a0, .inr (1, [.int i0, .ref a1, .ref a2, .ref a3, .ref a4, .ref a5, .ref a6, .ref a7, .ref a8, .ref a9])), (a6, .inl (cI, 10, .inl xF5)), (a9, .inl (cI, 210, .inl xF8))] sz) := by
  refine kEnter (by decide) (Nat.le_of_ble_eq_true rfl) ?_
  intro p e s m below meth c ls hx hb hr hml hown hlocks hin hwd hsz hP hK hD hl
  subst hsz
  generalize hAe : va_A [(a0, .inr (1, [.int i0, .ref a1, .ref a2, .ref a3, .ref a4, .ref a5, .ref a6, .ref a7, .ref a8, .ref a9])), (a6, .inl (cI, 10, .inl xF5)), (a9, .inl (cI, 210, .inl xF8))] s.heap.size = A at hD ⊢
  have hA : ∀ q : Nat, s.heap.size ≤ q → A q := fun q h => by rw [← hAe]; exact Or.inr h
  have hS : va_S A s.heap s.heap [] := va_S.rf
  have hl : lv_has ls 3 [(0, .ref a0), (1, .int p0), (2, .int p1)] := hl
  obtain ⟨Q, hQ⟩ : ∃ Q, Q = MQ below (va_Qi (fun (r : Int32) (u9 : Unit) => True) (fun u9 t => va_P (dC, dI) vwCl [(a0, .inr (1, [.int i0, .ref a1, .ref a2, .ref a3, .ref a4, .ref a5, .ref a6, .ref a7, .ref a8, .ref a9])), (a6, .inl (cI, 10, .inl xF5)), (a9, .inl (cI, 210, .inl xF8))] t.heap ∧ va_D A [(a0, .inr (1, [.int i0, .ref a1, .ref a2, .ref a3, .ref a4, .ref a5, .ref a6, .ref a7, .ref a8, .ref a9])), (a6, .inl (cI, 10, .inl xF5)), (a9, .inl (cI, 210, .inl xF8))]) A) ([.ref a0, .int p0, .int p1] : List Value).toArray s 0 0 A := ⟨_, rfl⟩
  rw [← hQ]
  have k10 : (10 : Int32).toInt = 10 := by decide
  have k21 : (21 : Int32).toInt = 21 := by decide
  refine lv_aload_n hx hb dX1_movedOf_0 rfl (lv_at hl 0 rfl) ?_
  refine va_get (D := (dC, dI)) (ci := 1) (v := .ref a9) (C := RX1) (T := TX1) (N := 10) hx hb hwd inlX1 hown hK hP 0 rfl rfl 9 (by decide) (hwd _ kr13_7) (fun _ h9 => h9) rfl dX1_movedOf_1 ?_
  refine lv_iload_n hx hb dX1_movedOf_4 rfl (lv_at hl 2 rfl) ?_
  refine lv_aload_n hx hb dX1_movedOf_5 rfl (lv_at hl 0 rfl) ?_
  refine va_get (D := (dC, dI)) (ci := 1) (v := .ref a6) (C := RX1) (T := TX1) (N := 10) hx hb hwd inlX1 hown hK hP 0 rfl rfl 6 (by decide) (hwd _ kr13_1) (fun _ h9 => h9) rfl dX1_movedOf_6 ?_
  refine lv_iload_n hx hb dX1_movedOf_9 rfl (lv_at hl 1 rfl) ?_
  have h1 : vp_in p0 10 := (vp_of (by omega) (by omega))
  refine va_iald hx hb hK hP 1 0 rfl rfl h1 dX1_movedOf_10 ?_
  refine lv_topi (fun x2 ex2 => ?_)
  refine lv_isub hx hb dX1_movedOf_11 ?_
  refine lv_topi (fun x3 ex3 => ?_)
  refine lv_bipush (v := 21) hx hb dX1_movedOf_12 (by decide) ?_
  have hPc := hP.sub (ws' := []) [] rfl
  have hDc := hD.sub (ws' := []) [] (by decide) rfl
  have hFc := va_free (wc := []) hD hS hA [] rfl
  refine va_calli (va_runS (As := [.int x3, .int 21]) (rest := [.ref a9]) ⟨hx, hb, hml, hown, hwd⟩ (s_J9_floorMod_7cf53 l dC dI cI cZ cB cJ cM cG x3 21 s.heap.size (show (1 : Int) ≤ (21 : Int32).toInt ∧ (21 : Int32).toInt ≤ 60 from ⟨by omega, by omega⟩)) (va_cwS 2 hwd (gSJ kr33_8 kr26_8 kr6_5 kr26_9) rfl rfl rfl (by decide +kernel) ⟨Nat.le_of_ble_eq_true rfl, Nat.le_of_ble_eq_true rfl⟩) (kPreS hPc hK hDc) rfl rfl hl.1 rfl (lv_room (Nat.le_of_ble_eq_true rfl)) dX1_movedOf_14 ⟨Nat.le_of_ble_eq_true rfl, Nat.le_of_ble_eq_true rfl⟩) hS (fun q _ h => hFc q h) hFc (fun r4 u5 t H1 locs ht9 hvm hw hB hz1 hk1 hS => ?_)
  obtain ⟨hw6, -⟩ := hw
  replace hw6 : 0 ≤ r4.toInt ∧ r4.toInt < (21 : Int32).toInt := hw6
  obtain ⟨hP1, hD1⟩ := hB
  rw [ht9] at hP1
  obtain ⟨hP, hD⟩ := va_join (wr := [(a0, .inr (1, [.int i0, .ref a1, .ref a2, .ref a3, .ref a4, .ref a5, .ref a6, .ref a7, .ref a8, .ref a9])), (a6, .inl (cI, 10, .inl xF5)), (a9, .inl (cI, 210, .inl xF8))]) (w1 := []) hP hD [] [0, 1, 2] rfl rfl (by decide) (by decide) hk1 hFc hP1 hD1
  generalize H1 = H at hP hS ⊢
  replace hP : va_P (dC, dI) vwCl [(a0, .inr (1, [.int i0, .ref a1, .ref a2, .ref a3, .ref a4, .ref a5, .ref a6, .ref a7, .ref a8, .ref a9])), (a6, .inl (cI, 10, .inl xF5)), (a9, .inl (cI, 210, .inl xF8))] H := hP
  replace hD : va_D A [(a0, .inr (1, [.int i0, .ref a1, .ref a2, .ref a3, .ref a4, .ref a5, .ref a6, .ref a7, .ref a8, .ref a9])), (a6, .inl (cI, 10, .inl xF5)), (a9, .inl (cI, 210, .inl xF8))] := hD
  refine lv_bipush (v := 10) hx hb dX1_movedOf_17 (by decide) ?_
  refine lv_imul hx hb dX1_movedOf_19 ?_
  refine lv_topi (fun x7 ex7 => ?_)
  have tx7 := ia_mulr (a := r4) (b := (10 : Int32)) 10 (by decide) (by omega) (by omega)
  rw [← ex7] at tx7
  refine lv_iload_n hx hb dX1_movedOf_20 rfl (lv_at hl 1 rfl) ?_
  refine lv_iadd hx hb dX1_movedOf_21 ?_
  refine lv_topi (fun x8 ex8 => ?_)
  have tx8 := ia_add (a := x7) (b := p0) (by omega) (by omega)
  rw [← ex8] at tx8
  have h9 : vp_in x8 210 := (vp_of (by omega) (by omega))
  refine va_iald hx hb hK hP 2 0 rfl rfl h9 dX1_movedOf_22 ?_
  refine lv_topi (fun x10 ex10 => ?_)
  have hP9 := hP.sub (ws' := [(a0, .inr (1, [.int i0, .ref a1, .ref a2, .ref a3, .ref a4, .ref a5, .ref a6, .ref a7, .ref a8, .ref a9])), (a6, .inl (cI, 10, .inl xF5)), (a9, .inl (cI, 210, .inl xF8))]) [0, 1, 2] rfl
  have hD9 := hD.sub (ws' := [(a0, .inr (1, [.int i0, .ref a1, .ref a2, .ref a3, .ref a4, .ref a5, .ref a6, .ref a7, .ref a8, .ref a9])), (a6, .inl (cI, 10, .inl xF5)), (a9, .inl (cI, 210, .inl xF8))]) [0, 1, 2] (by decide) rfl
  rw [hQ]
  exact W.iret (v := x10) hx hb hr (fun t ht hW => ⟨⟨x10, (), rfl, trivial, (by rw [ht]; exact hP9), hD9⟩, hS.F ht⟩) hS.2.2 dX1_movedOf_23
theorem dX2_hasTrack_0 : decode cX2_hasTrack 0 = .ok (.iload_n 1, 1) := by decide +kernel
theorem dX2_hasTrack_1 : decode cX2_hasTrack 1 = .ok (.ifCond .lt 15, 3) := by decide +kernel
theorem dX2_hasTrack_4 : decode cX2_hasTrack 4 = .ok (.iload_n 1, 1) := by decide +kernel
theorem dX2_hasTrack_5 : decode cX2_hasTrack 5 = .ok (.aload_n 0, 1) := by decide +kernel
theorem dX2_hasTrack_6 : decode cX2_hasTrack 6 = .ok (.getfield 47, 3) := by decide +kernel
theorem dX2_hasTrack_9 : decode cX2_hasTrack 9 = .ok (.if_icmp .ge 7, 3) := by decide +kernel
theorem dX2_hasTrack_12 : decode cX2_hasTrack 12 = .ok (.iconst 1, 1) := by decide +kernel
theorem dX2_hasTrack_13 : decode cX2_hasTrack 13 = .ok (.goto 4, 3) := by decide +kernel
theorem dX2_hasTrack_16 : decode cX2_hasTrack 16 = .ok (.iconst 0, 1) := by decide +kernel
theorem dX2_hasTrack_17 : decode cX2_hasTrack 17 = .ok (.ireturn, 1) := by decide +kernel
set_option maxHeartbeats 4000000 in
set_option maxRecDepth 100000 in
theorem s_X2_hasTrack (l : Launch) (dC : Nat → ClassId) (dI : Nat → Nat → Nat) (cI cZ cB cJ cM cG : ClassId) (a0 a1 a2 a3 a4 a5 : Nat) (i0 i1 i2 i3 i4 i5 i6 i7 i8 : Int32) (p0 : Int32) (sz : Nat) (p_0 : (0 : Int) ≤ i0.toInt ∧ i0.toInt ≤ 60) (p_1 : (0 : Int) ≤ i3.toInt ∧ i3.toInt ≤ 6) (p_2 : (0 : Int) ≤ i5.toInt ∧ i5.toInt ≤ 1) (p_3 : (0 : Int) ≤ i8.toInt ∧ i8.toInt ≤ 1) : Met l yX2_hasTrack (kw yX2_hasTrack cX2_hasTrack 2 (some .boolean)) ({ frames := 0, cells := 0, slots := 0, locals := 0 } : Room) (va_Pc [.ref a0, .int p0] (kPre dC dI [(cI, .int), (cZ, .boolean), (cB, .byte), (cJ, .long), (cM, .object RX2), (cG, .array .int)] [(a0, .inr (2, [.int i0, .int i1, .int i2, .int i3, .int i4, .int i5, .int i6, .int i7, .int i8, .ref a1, .ref a2, .ref a3, .ref a4, .ref a5]))] sz)) (va_Qi (fun (r : Int32) (u9 : Unit) => ((0 : Int) ≤ r.toInt ∧ r.toInt ≤ 1) ∧ ((r.toInt ≠ 0 → p0.toInt ≥ 0 ∧ p0.toInt < i3.toInt)) ∧ True) (fun u9 t => va_P (dC, dI) vwCl [(a0, .inr (2, [.int i0, .int i1, .int i2, .int i3, .int i4, .int i5, .int i6, .int i7, .int i8, .ref a1, .ref a2, .ref a3, .ref a4, .ref a5]))] t.heap ∧ va_D (va_A [(a0, .inr (2, [.int i0, .int i1, .int i2, .int i3, .int i4, .int i5, .int i6, .int i7, .int i8, .ref a1, .ref a2, .ref a3, .ref a4, .ref a5]))] sz) [(a0, .inr (2, [.int i0, .int i1, .int i2, .int i3, .int i4, .int i5, .int i6, .int i7, .int i8, .ref a1, .ref a2, .ref a3, .ref a4, .ref a5]))]) (va_A [(a0, .inr (2, [.int i0, .int i1, .int i2, .int i3, .int i4, .int i5, .int i6, .int i7, .int i8, .ref a1, .ref a2, .ref a3, .ref a4, .ref a5]))] sz)) 0 0 (va_A [(a0, .inr (2, [.int i0, .int i1, .int i2, .int i3, .int i4, .int i5, .int i6, .int i7, .int i8, .ref a1, .ref a2, .ref a3, .ref a4, .ref a5]))] sz) := by
  refine kEnter (by decide) (Nat.le_of_ble_eq_true rfl) ?_
  intro p e s m below meth c ls hx hb hr hml hown hlocks hin hwd hsz hP hK hD hl
  subst hsz
  generalize hAe : va_A [(a0, .inr (2, [.int i0, .int i1, .int i2, .int i3, .int i4, .int i5, .int i6, .int i7, .int i8, .ref a1, .ref a2, .ref a3, .ref a4, .ref a5]))] s.heap.size = A at hD ⊢
  have hA : ∀ q : Nat, s.heap.size ≤ q → A q := fun q h => by rw [← hAe]; exact Or.inr h
  have hS : va_S A s.heap s.heap [] := va_S.rf
  have hl : lv_has ls 2 [(0, .ref a0), (1, .int p0)] := hl
  obtain ⟨Q, hQ⟩ : ∃ Q, Q = MQ below (va_Qi (fun (r : Int32) (u9 : Unit) => ((0 : Int) ≤ r.toInt ∧ r.toInt ≤ 1) ∧ ((r.toInt ≠ 0 → p0.toInt ≥ 0 ∧ p0.toInt < i3.toInt)) ∧ True) (fun u9 t => va_P (dC, dI) vwCl [(a0, .inr (2, [.int i0, .int i1, .int i2, .int i3, .int i4, .int i5, .int i6, .int i7, .int i8, .ref a1, .ref a2, .ref a3, .ref a4, .ref a5]))] t.heap ∧ va_D A [(a0, .inr (2, [.int i0, .int i1, .int i2, .int i3, .int i4, .int i5, .int i6, .int i7, .int i8, .ref a1, .ref a2, .ref a3, .ref a4, .ref a5]))]) A) ([.ref a0, .int p0] : List Value).toArray s 0 0 A := ⟨_, rfl⟩
  rw [← hQ]
  have k0 : (0 : Int32).toInt = 0 := by decide
  have k1 : (1 : Int32).toInt = 1 := by decide
  refine lv_iload_n hx hb dX2_hasTrack_0 rfl (lv_at hl 1 rfl) ?_
  refine lv_if_lt (tgt := 16) hx hb dX2_hasTrack_1 (by decide) (fun c1 => ?_) (fun c1 => ?_)
  · rw [ki_lt] at c1
    refine lv_iconst (v := 0) hx hb dX2_hasTrack_16 (by decide) ?_
    have hP9 := hP.sub (ws' := [(a0, .inr (2, [.int i0, .int i1, .int i2, .int i3, .int i4, .int i5, .int i6, .int i7, .int i8, .ref a1, .ref a2, .ref a3, .ref a4, .ref a5]))]) [0] rfl
    have hD9 := hD.sub (ws' := [(a0, .inr (2, [.int i0, .int i1, .int i2, .int i3, .int i4, .int i5, .int i6, .int i7, .int i8, .ref a1, .ref a2, .ref a3, .ref a4, .ref a5]))]) [0] (by decide) rfl
    rw [hQ]
    exact W.zret (v := 0) hx hb hr (by decide) (fun t ht hW => ⟨⟨0, (), rfl, ⟨(show (0 : Int) ≤ (0 : Int32).toInt ∧ (0 : Int32).toInt ≤ 1 from ⟨by omega, by omega⟩), (show ((0 : Int32).toInt ≠ 0 → p0.toInt ≥ 0 ∧ p0.toInt < i3.toInt) from by omega), trivial⟩, (by rw [ht]; exact hP9), hD9⟩, hS.F ht⟩) hS.2.2 dX2_hasTrack_17
  · rw [ki_lt] at c1
    refine lv_iload_n hx hb dX2_hasTrack_4 rfl (lv_at hl 1 rfl) ?_
    refine lv_aload_n hx hb dX2_hasTrack_5 rfl (lv_at hl 0 rfl) ?_
    refine va_get (D := (dC, dI)) (ci := 2) (v := .int i3) (C := RX2) (T := TX2) (N := 14) hx hb hwd inlX2 hown hK hP 0 rfl rfl 3 (by decide) (hwd _ kr15_6) (fun _ h9 => h9) rfl dX2_hasTrack_6 ?_
    refine lv_icmp_ge (tgt := 16) hx hb dX2_hasTrack_9 (by decide) (fun c2 => ?_) (fun c2 => ?_)
    · rw [ki_le] at c2
      refine lv_iconst (v := 0) hx hb dX2_hasTrack_16 (by decide) ?_
      have hP9 := hP.sub (ws' := [(a0, .inr (2, [.int i0, .int i1, .int i2, .int i3, .int i4, .int i5, .int i6, .int i7, .int i8, .ref a1, .ref a2, .ref a3, .ref a4, .ref a5]))]) [0] rfl
      have hD9 := hD.sub (ws' := [(a0, .inr (2, [.int i0, .int i1, .int i2, .int i3, .int i4, .int i5, .int i6, .int i7, .int i8, .ref a1, .ref a2, .ref a3, .ref a4, .ref a5]))]) [0] (by decide) rfl
      rw [hQ]
      exact W.zret (v := 0) hx hb hr (by decide) (fun t ht hW => ⟨⟨0, (), rfl, ⟨(show (0 : Int) ≤ (0 : Int32).toInt ∧ (0 : Int32).toInt ≤ 1 from ⟨by omega, by omega⟩), (show ((0 : Int32).toInt ≠ 0 → p0.toInt ≥ 0 ∧ p0.toInt < i3.toInt) from by omega), trivial⟩, (by rw [ht]; exact hP9), hD9⟩, hS.F ht⟩) hS.2.2 dX2_hasTrack_17
    · rw [ki_le] at c2
      refine lv_iconst (v := 1) hx hb dX2_hasTrack_12 (by decide) ?_
      refine lv_goto (tgt := 17) hx hb dX2_hasTrack_13 (by decide) ?_
      have hP9 := hP.sub (ws' := [(a0, .inr (2, [.int i0, .int i1, .int i2, .int i3, .int i4, .int i5, .int i6, .int i7, .int i8, .ref a1, .ref a2, .ref a3, .ref a4, .ref a5]))]) [0] rfl
      have hD9 := hD.sub (ws' := [(a0, .inr (2, [.int i0, .int i1, .int i2, .int i3, .int i4, .int i5, .int i6, .int i7, .int i8, .ref a1, .ref a2, .ref a3, .ref a4, .ref a5]))]) [0] (by decide) rfl
      rw [hQ]
      exact W.zret (v := 1) hx hb hr (by decide) (fun t ht hW => ⟨⟨1, (), rfl, ⟨(show (0 : Int) ≤ (1 : Int32).toInt ∧ (1 : Int32).toInt ≤ 1 from ⟨by omega, by omega⟩), (show ((1 : Int32).toInt ≠ 0 → p0.toInt ≥ 0 ∧ p0.toInt < i3.toInt) from by omega), trivial⟩, (by rw [ht]; exact hP9), hD9⟩, hS.F ht⟩) hS.2.2 dX2_hasTrack_17
theorem dX2_hasStep_0 : decode cX2_hasStep 0 = .ok (.iload_n 1, 1) := by decide +kernel
theorem dX2_hasStep_1 : decode cX2_hasStep 1 = .ok (.ifCond .lt 15, 3) := by decide +kernel
theorem dX2_hasStep_4 : decode cX2_hasStep 4 = .ok (.iload_n 1, 1) := by decide +kernel
theorem dX2_hasStep_5 : decode cX2_hasStep 5 = .ok (.aload_n 0, 1) := by decide +kernel
theorem dX2_hasStep_6 : decode cX2_hasStep 6 = .ok (.getfield 43, 3) := by decide +kernel
theorem dX2_hasStep_9 : decode cX2_hasStep 9 = .ok (.if_icmp .ge 7, 3) := by decide +kernel
theorem dX2_hasStep_12 : decode cX2_hasStep 12 = .ok (.iconst 1, 1) := by decide +kernel
theorem dX2_hasStep_13 : decode cX2_hasStep 13 = .ok (.goto 4, 3) := by decide +kernel
theorem dX2_hasStep_16 : decode cX2_hasStep 16 = .ok (.iconst 0, 1) := by decide +kernel
theorem dX2_hasStep_17 : decode cX2_hasStep 17 = .ok (.ireturn, 1) := by decide +kernel
set_option maxHeartbeats 4000000 in
set_option maxRecDepth 100000 in
theorem s_X2_hasStep (l : Launch) (dC : Nat → ClassId) (dI : Nat → Nat → Nat) (cI cZ cB cJ cM cG : ClassId) (a0 a1 a2 a3 a4 a5 : Nat) (i0 i1 i2 i3 i4 i5 i6 i7 i8 : Int32) (p0 : Int32) (sz : Nat) (p_0 : (0 : Int) ≤ i0.toInt ∧ i0.toInt ≤ 60) (p_1 : (0 : Int) ≤ i3.toInt ∧ i3.toInt ≤ 6) (p_2 : (0 : Int) ≤ i5.toInt ∧ i5.toInt ≤ 1) (p_3 : (0 : Int) ≤ i8.toInt ∧ i8.toInt ≤ 1) : Met l yX2_hasStep (kw yX2_hasStep cX2_hasStep 2 (some .boolean)) ({ frames := 0, cells := 0, slots := 0, locals := 0 } : Room) (va_Pc [.ref a0, .int p0] (kPre dC dI [(cI, .int), (cZ, .boolean), (cB, .byte), (cJ, .long), (cM, .object RX2), (cG, .array .int)] [(a0, .inr (2, [.int i0, .int i1, .int i2, .int i3, .int i4, .int i5, .int i6, .int i7, .int i8, .ref a1, .ref a2, .ref a3, .ref a4, .ref a5]))] sz)) (va_Qi (fun (r : Int32) (u9 : Unit) => ((0 : Int) ≤ r.toInt ∧ r.toInt ≤ 1) ∧ ((r.toInt ≠ 0 → p0.toInt ≥ 0 ∧ p0.toInt < i0.toInt)) ∧ True) (fun u9 t => va_P (dC, dI) vwCl [(a0, .inr (2, [.int i0, .int i1, .int i2, .int i3, .int i4, .int i5, .int i6, .int i7, .int i8, .ref a1, .ref a2, .ref a3, .ref a4, .ref a5]))] t.heap ∧ va_D (va_A [(a0, .inr (2, [.int i0, .int i1, .int i2, .int i3, .int i4, .int i5, .int i6, .int i7, .int i8, .ref a1, .ref a2, .ref a3, .ref a4, .ref a5]))] sz) [(a0, .inr (2, [.int i0, .int i1, .int i2, .int i3, .int i4, .int i5, .int i6, .int i7, .int i8, .ref a1, .ref a2, .ref a3, .ref a4, .ref a5]))]) (va_A [(a0, .inr (2, [.int i0, .int i1, .int i2, .int i3, .int i4, .int i5, .int i6, .int i7, .int i8, .ref a1, .ref a2, .ref a3, .ref a4, .ref a5]))] sz)) 0 0 (va_A [(a0, .inr (2, [.int i0, .int i1, .int i2, .int i3, .int i4, .int i5, .int i6, .int i7, .int i8, .ref a1, .ref a2, .ref a3, .ref a4, .ref a5]))] sz) := by
  refine kEnter (by decide) (Nat.le_of_ble_eq_true rfl) ?_
  intro p e s m below meth c ls hx hb hr hml hown hlocks hin hwd hsz hP hK hD hl
  subst hsz
  generalize hAe : va_A [(a0, .inr (2, [.int i0, .int i1, .int i2, .int i3, .int i4, .int i5, .int i6, .int i7, .int i8, .ref a1, .ref a2, .ref a3, .ref a4, .ref a5]))] s.heap.size = A at hD ⊢
  have hA : ∀ q : Nat, s.heap.size ≤ q → A q := fun q h => by rw [← hAe]; exact Or.inr h
  have hS : va_S A s.heap s.heap [] := va_S.rf
  have hl : lv_has ls 2 [(0, .ref a0), (1, .int p0)] := hl
  obtain ⟨Q, hQ⟩ : ∃ Q, Q = MQ below (va_Qi (fun (r : Int32) (u9 : Unit) => ((0 : Int) ≤ r.toInt ∧ r.toInt ≤ 1) ∧ ((r.toInt ≠ 0 → p0.toInt ≥ 0 ∧ p0.toInt < i0.toInt)) ∧ True) (fun u9 t => va_P (dC, dI) vwCl [(a0, .inr (2, [.int i0, .int i1, .int i2, .int i3, .int i4, .int i5, .int i6, .int i7, .int i8, .ref a1, .ref a2, .ref a3, .ref a4, .ref a5]))] t.heap ∧ va_D A [(a0, .inr (2, [.int i0, .int i1, .int i2, .int i3, .int i4, .int i5, .int i6, .int i7, .int i8, .ref a1, .ref a2, .ref a3, .ref a4, .ref a5]))]) A) ([.ref a0, .int p0] : List Value).toArray s 0 0 A := ⟨_, rfl⟩
  rw [← hQ]
  have k0 : (0 : Int32).toInt = 0 := by decide
  have k1 : (1 : Int32).toInt = 1 := by decide
  refine lv_iload_n hx hb dX2_hasStep_0 rfl (lv_at hl 1 rfl) ?_
  refine lv_if_lt (tgt := 16) hx hb dX2_hasStep_1 (by decide) (fun c1 => ?_) (fun c1 => ?_)
  · rw [ki_lt] at c1
    refine lv_iconst (v := 0) hx hb dX2_hasStep_16 (by decide) ?_
    have hP9 := hP.sub (ws' := [(a0, .inr (2, [.int i0, .int i1, .int i2, .int i3, .int i4, .int i5, .int i6, .int i7, .int i8, .ref a1, .ref a2, .ref a3, .ref a4, .ref a5]))]) [0] rfl
    have hD9 := hD.sub (ws' := [(a0, .inr (2, [.int i0, .int i1, .int i2, .int i3, .int i4, .int i5, .int i6, .int i7, .int i8, .ref a1, .ref a2, .ref a3, .ref a4, .ref a5]))]) [0] (by decide) rfl
    rw [hQ]
    exact W.zret (v := 0) hx hb hr (by decide) (fun t ht hW => ⟨⟨0, (), rfl, ⟨(show (0 : Int) ≤ (0 : Int32).toInt ∧ (0 : Int32).toInt ≤ 1 from ⟨by omega, by omega⟩), (show ((0 : Int32).toInt ≠ 0 → p0.toInt ≥ 0 ∧ p0.toInt < i0.toInt) from by omega), trivial⟩, (by rw [ht]; exact hP9), hD9⟩, hS.F ht⟩) hS.2.2 dX2_hasStep_17
  · rw [ki_lt] at c1
    refine lv_iload_n hx hb dX2_hasStep_4 rfl (lv_at hl 1 rfl) ?_
    refine lv_aload_n hx hb dX2_hasStep_5 rfl (lv_at hl 0 rfl) ?_
    refine va_get (D := (dC, dI)) (ci := 2) (v := .int i0) (C := RX2) (T := TX2) (N := 14) hx hb hwd inlX2 hown hK hP 0 rfl rfl 0 (by decide) (hwd _ kr14_22) (fun _ h9 => h9) rfl dX2_hasStep_6 ?_
    refine lv_icmp_ge (tgt := 16) hx hb dX2_hasStep_9 (by decide) (fun c2 => ?_) (fun c2 => ?_)
    · rw [ki_le] at c2
      refine lv_iconst (v := 0) hx hb dX2_hasStep_16 (by decide) ?_
      have hP9 := hP.sub (ws' := [(a0, .inr (2, [.int i0, .int i1, .int i2, .int i3, .int i4, .int i5, .int i6, .int i7, .int i8, .ref a1, .ref a2, .ref a3, .ref a4, .ref a5]))]) [0] rfl
      have hD9 := hD.sub (ws' := [(a0, .inr (2, [.int i0, .int i1, .int i2, .int i3, .int i4, .int i5, .int i6, .int i7, .int i8, .ref a1, .ref a2, .ref a3, .ref a4, .ref a5]))]) [0] (by decide) rfl
      rw [hQ]
      exact W.zret (v := 0) hx hb hr (by decide) (fun t ht hW => ⟨⟨0, (), rfl, ⟨(show (0 : Int) ≤ (0 : Int32).toInt ∧ (0 : Int32).toInt ≤ 1 from ⟨by omega, by omega⟩), (show ((0 : Int32).toInt ≠ 0 → p0.toInt ≥ 0 ∧ p0.toInt < i0.toInt) from by omega), trivial⟩, (by rw [ht]; exact hP9), hD9⟩, hS.F ht⟩) hS.2.2 dX2_hasStep_17
    · rw [ki_le] at c2
      refine lv_iconst (v := 1) hx hb dX2_hasStep_12 (by decide) ?_
      refine lv_goto (tgt := 17) hx hb dX2_hasStep_13 (by decide) ?_
      have hP9 := hP.sub (ws' := [(a0, .inr (2, [.int i0, .int i1, .int i2, .int i3, .int i4, .int i5, .int i6, .int i7, .int i8, .ref a1, .ref a2, .ref a3, .ref a4, .ref a5]))]) [0] rfl
      have hD9 := hD.sub (ws' := [(a0, .inr (2, [.int i0, .int i1, .int i2, .int i3, .int i4, .int i5, .int i6, .int i7, .int i8, .ref a1, .ref a2, .ref a3, .ref a4, .ref a5]))]) [0] (by decide) rfl
      rw [hQ]
      exact W.zret (v := 1) hx hb hr (by decide) (fun t ht hW => ⟨⟨1, (), rfl, ⟨(show (0 : Int) ≤ (1 : Int32).toInt ∧ (1 : Int32).toInt ≤ 1 from ⟨by omega, by omega⟩), (show ((1 : Int32).toInt ≠ 0 → p0.toInt ≥ 0 ∧ p0.toInt < i0.toInt) from by omega), trivial⟩, (by rw [ht]; exact hP9), hD9⟩, hS.F ht⟩) hS.2.2 dX2_hasStep_17
theorem dX2_hasNose_0 : decode cX2_hasNose 0 = .ok (.iload_n 1, 1) := by decide +kernel
theorem dX2_hasNose_1 : decode cX2_hasNose 1 = .ok (.ifCond .lt 18, 3) := by decide +kernel
theorem dX2_hasNose_4 : decode cX2_hasNose 4 = .ok (.iload_n 1, 1) := by decide +kernel
theorem dX2_hasNose_5 : decode cX2_hasNose 5 = .ok (.aload_n 0, 1) := by decide +kernel
theorem dX2_hasNose_6 : decode cX2_hasNose 6 = .ok (.getfield 12, 3) := by decide +kernel
theorem dX2_hasNose_9 : decode cX2_hasNose 9 = .ok (.getfield 50, 3) := by decide +kernel
theorem dX2_hasNose_12 : decode cX2_hasNose 12 = .ok (.if_icmp .ge 7, 3) := by decide +kernel
theorem dX2_hasNose_15 : decode cX2_hasNose 15 = .ok (.iconst 1, 1) := by decide +kernel
theorem dX2_hasNose_16 : decode cX2_hasNose 16 = .ok (.goto 4, 3) := by decide +kernel
theorem dX2_hasNose_19 : decode cX2_hasNose 19 = .ok (.iconst 0, 1) := by decide +kernel
theorem dX2_hasNose_20 : decode cX2_hasNose 20 = .ok (.ireturn, 1) := by decide +kernel
set_option maxHeartbeats 4000000 in
set_option maxRecDepth 100000 in
theorem s_X2_hasNose (l : Launch) (dC : Nat → ClassId) (dI : Nat → Nat → Nat) (cI cZ cB cJ cM cG : ClassId) (a0 a1 a2 a3 a4 a5 a6 a7 a8 a9 a10 a11 a12 : Nat) (i0 i1 i2 i3 i4 i5 i6 i7 i8 i9 : Int32) (p0 : Int32) (sz : Nat) (p_0 : (0 : Int) ≤ i0.toInt ∧ i0.toInt ≤ 60) (p_1 : (0 : Int) ≤ i3.toInt ∧ i3.toInt ≤ 6) (p_2 : (0 : Int) ≤ i5.toInt ∧ i5.toInt ≤ 1) (p_3 : (0 : Int) ≤ i8.toInt ∧ i8.toInt ≤ 1) (p_4 : (0 : Int) ≤ i9.toInt ∧ i9.toInt ≤ 24) : Met l yX2_hasNose (kw yX2_hasNose cX2_hasNose 2 (some .boolean)) ({ frames := 0, cells := 0, slots := 0, locals := 0 } : Room) (va_Pc [.ref a0, .int p0] (kPre dC dI [(cI, .int), (cZ, .boolean), (cB, .byte), (cJ, .long), (cM, .object RX2), (cG, .array .int)] [(a0, .inr (2, [.int i0, .int i1, .int i2, .int i3, .int i4, .int i5, .int i6, .int i7, .int i8, .ref a1, .ref a2, .ref a3, .ref a4, .ref a5])), (a1, .inr (3, [.int i9, .ref a6, .ref a7, .ref a8, .ref a9, .ref a10, .ref a11, .ref a12]))] sz)) (va_Qi (fun (r : Int32) (u9 : Unit) => ((0 : Int) ≤ r.toInt ∧ r.toInt ≤ 1) ∧ ((r.toInt ≠ 0 → p0.toInt ≥ 0 ∧ p0.toInt < i9.toInt)) ∧ True) (fun u9 t => va_P (dC, dI) vwCl [(a0, .inr (2, [.int i0, .int i1, .int i2, .int i3, .int i4, .int i5, .int i6, .int i7, .int i8, .ref a1, .ref a2, .ref a3, .ref a4, .ref a5])), (a1, .inr (3, [.int i9, .ref a6, .ref a7, .ref a8, .ref a9, .ref a10, .ref a11, .ref a12]))] t.heap ∧ va_D (va_A [(a0, .inr (2, [.int i0, .int i1, .int i2, .int i3, .int i4, .int i5, .int i6, .int i7, .int i8, .ref a1, .ref a2, .ref a3, .ref a4, .ref a5])), (a1, .inr (3, [.int i9, .ref a6, .ref a7, .ref a8, .ref a9, .ref a10, .ref a11, .ref a12]))] sz) [(a0, .inr (2, [.int i0, .int i1, .int i2, .int i3, .int i4, .int i5, .int i6, .int i7, .int i8, .ref a1, .ref a2, .ref a3, .ref a4, .ref a5])), (a1, .inr (3, [.int i9, .ref a6, .ref a7, .ref a8, .ref a9, .ref a10, .ref a11, .ref a12]))]) (va_A [(a0, .inr (2, [.int i0, .int i1, .int i2, .int i3, .int i4, .int i5, .int i6, .int i7, .int i8, .ref a1, .ref a2, .ref a3, .ref a4, .ref a5])), (a1, .inr (3, [.int i9, .ref a6, .ref a7, .ref a8, .ref a9, .ref a10, .ref a11, .ref a12]))] sz)) 0 0 (va_A [(a0, .inr (2, [.int i0, .int i1, .int i2, .int i3, .int i4, .int i5, .int i6, .int i7, .int i8, .ref a1, .ref a2, .ref a3, .ref a4, .ref a5])), (a1, .inr (3, [.int i9, .ref a6, .ref a7, .ref a8, .ref a9, .ref a10, .ref a11, .ref a12]))] sz) := by
  refine kEnter (by decide) (Nat.le_of_ble_eq_true rfl) ?_
  intro p e s m below meth c ls hx hb hr hml hown hlocks hin hwd hsz hP hK hD hl
  subst hsz
  generalize hAe : va_A [(a0, .inr (2, [.int i0, .int i1, .int i2, .int i3, .int i4, .int i5, .int i6, .int i7, .int i8, .ref a1, .ref a2, .ref a3, .ref a4, .ref a5])), (a1, .inr (3, [.int i9, .ref a6, .ref a7, .ref a8, .ref a9, .ref a10, .ref a11, .ref a12]))] s.heap.size = A at hD ⊢
  have hA : ∀ q : Nat, s.heap.size ≤ q → A q := fun q h => by rw [← hAe]; exact Or.inr h
  have hS : va_S A s.heap s.heap [] := va_S.rf
  have hl : lv_has ls 2 [(0, .ref a0), (1, .int p0)] := hl
  obtain ⟨Q, hQ⟩ : ∃ Q, Q = MQ below (va_Qi (fun (r : Int32) (u9 : Unit) => ((0 : Int) ≤ r.toInt ∧ r.toInt ≤ 1) ∧ ((r.toInt ≠ 0 → p0.toInt ≥ 0 ∧ p0.toInt < i9.toInt)) ∧ True) (fun u9 t => va_P (dC, dI) vwCl [(a0, .inr (2, [.int i0, .int i1, .int i2, .int i3, .int i4, .int i5, .int i6, .int i7, .int i8, .ref a1, .ref a2, .ref a3, .ref a4, .ref a5])), (a1, .inr (3, [.int i9, .ref a6, .ref a7, .ref a8, .ref a9, .ref a10, .ref a11, .ref a12]))] t.heap ∧ va_D A [(a0, .inr (2, [.int i0, .int i1, .int i2, .int i3, .int i4, .int i5, .int i6, .int i7, .int i8, .ref a1, .ref a2, .ref a3, .ref a4, .ref a5])), (a1, .inr (3, [.int i9, .ref a6, .ref a7, .ref a8, .ref a9, .ref a10, .ref a11, .ref a12]))]) A) ([.ref a0, .int p0] : List Value).toArray s 0 0 A := ⟨_, rfl⟩
  rw [← hQ]
  have k0 : (0 : Int32).toInt = 0 := by decide
  have k1 : (1 : Int32).toInt = 1 := by decide
  refine lv_iload_n hx hb dX2_hasNose_0 rfl (lv_at hl 1 rfl) ?_
  refine lv_if_lt (tgt := 19) hx hb dX2_hasNose_1 (by decide) (fun c1 => ?_) (fun c1 => ?_)
  · rw [ki_lt] at c1
    refine lv_iconst (v := 0) hx hb dX2_hasNose_19 (by decide) ?_
    have hP9 := hP.sub (ws' := [(a0, .inr (2, [.int i0, .int i1, .int i2, .int i3, .int i4, .int i5, .int i6, .int i7, .int i8, .ref a1, .ref a2, .ref a3, .ref a4, .ref a5])), (a1, .inr (3, [.int i9, .ref a6, .ref a7, .ref a8, .ref a9, .ref a10, .ref a11, .ref a12]))]) [0, 1] rfl
    have hD9 := hD.sub (ws' := [(a0, .inr (2, [.int i0, .int i1, .int i2, .int i3, .int i4, .int i5, .int i6, .int i7, .int i8, .ref a1, .ref a2, .ref a3, .ref a4, .ref a5])), (a1, .inr (3, [.int i9, .ref a6, .ref a7, .ref a8, .ref a9, .ref a10, .ref a11, .ref a12]))]) [0, 1] (by decide) rfl
    rw [hQ]
    exact W.zret (v := 0) hx hb hr (by decide) (fun t ht hW => ⟨⟨0, (), rfl, ⟨(show (0 : Int) ≤ (0 : Int32).toInt ∧ (0 : Int32).toInt ≤ 1 from ⟨by omega, by omega⟩), (show ((0 : Int32).toInt ≠ 0 → p0.toInt ≥ 0 ∧ p0.toInt < i9.toInt) from by omega), trivial⟩, (by rw [ht]; exact hP9), hD9⟩, hS.F ht⟩) hS.2.2 dX2_hasNose_20
  · rw [ki_lt] at c1
    refine lv_iload_n hx hb dX2_hasNose_4 rfl (lv_at hl 1 rfl) ?_
    refine lv_aload_n hx hb dX2_hasNose_5 rfl (lv_at hl 0 rfl) ?_
    refine va_get (D := (dC, dI)) (ci := 2) (v := .ref a1) (C := RX2) (T := TX2) (N := 14) hx hb hwd inlX2 hown hK hP 0 rfl rfl 9 (by decide) (hwd _ kr15_15) (fun _ h9 => h9) rfl dX2_hasNose_6 ?_
    refine va_get (D := (dC, dI)) (ci := 3) (v := .int i9) (C := RX3) (T := TX3) (N := 8) hx hb hwd inlX3 hown hK hP 1 rfl rfl 0 (by decide) (hwd _ kr11_4) (fun _ h9 => h9) rfl dX2_hasNose_9 ?_
    refine lv_icmp_ge (tgt := 19) hx hb dX2_hasNose_12 (by decide) (fun c2 => ?_) (fun c2 => ?_)
    · rw [ki_le] at c2
      refine lv_iconst (v := 0) hx hb dX2_hasNose_19 (by decide) ?_
      have hP9 := hP.sub (ws' := [(a0, .inr (2, [.int i0, .int i1, .int i2, .int i3, .int i4, .int i5, .int i6, .int i7, .int i8, .ref a1, .ref a2, .ref a3, .ref a4, .ref a5])), (a1, .inr (3, [.int i9, .ref a6, .ref a7, .ref a8, .ref a9, .ref a10, .ref a11, .ref a12]))]) [0, 1] rfl
      have hD9 := hD.sub (ws' := [(a0, .inr (2, [.int i0, .int i1, .int i2, .int i3, .int i4, .int i5, .int i6, .int i7, .int i8, .ref a1, .ref a2, .ref a3, .ref a4, .ref a5])), (a1, .inr (3, [.int i9, .ref a6, .ref a7, .ref a8, .ref a9, .ref a10, .ref a11, .ref a12]))]) [0, 1] (by decide) rfl
      rw [hQ]
      exact W.zret (v := 0) hx hb hr (by decide) (fun t ht hW => ⟨⟨0, (), rfl, ⟨(show (0 : Int) ≤ (0 : Int32).toInt ∧ (0 : Int32).toInt ≤ 1 from ⟨by omega, by omega⟩), (show ((0 : Int32).toInt ≠ 0 → p0.toInt ≥ 0 ∧ p0.toInt < i9.toInt) from by omega), trivial⟩, (by rw [ht]; exact hP9), hD9⟩, hS.F ht⟩) hS.2.2 dX2_hasNose_20
    · rw [ki_le] at c2
      refine lv_iconst (v := 1) hx hb dX2_hasNose_15 (by decide) ?_
      refine lv_goto (tgt := 20) hx hb dX2_hasNose_16 (by decide) ?_
      have hP9 := hP.sub (ws' := [(a0, .inr (2, [.int i0, .int i1, .int i2, .int i3, .int i4, .int i5, .int i6, .int i7, .int i8, .ref a1, .ref a2, .ref a3, .ref a4, .ref a5])), (a1, .inr (3, [.int i9, .ref a6, .ref a7, .ref a8, .ref a9, .ref a10, .ref a11, .ref a12]))]) [0, 1] rfl
      have hD9 := hD.sub (ws' := [(a0, .inr (2, [.int i0, .int i1, .int i2, .int i3, .int i4, .int i5, .int i6, .int i7, .int i8, .ref a1, .ref a2, .ref a3, .ref a4, .ref a5])), (a1, .inr (3, [.int i9, .ref a6, .ref a7, .ref a8, .ref a9, .ref a10, .ref a11, .ref a12]))]) [0, 1] (by decide) rfl
      rw [hQ]
      exact W.zret (v := 1) hx hb hr (by decide) (fun t ht hW => ⟨⟨1, (), rfl, ⟨(show (0 : Int) ≤ (1 : Int32).toInt ∧ (1 : Int32).toInt ≤ 1 from ⟨by omega, by omega⟩), (show ((1 : Int32).toInt ≠ 0 → p0.toInt ≥ 0 ∧ p0.toInt < i9.toInt) from by omega), trivial⟩, (by rw [ht]; exact hP9), hD9⟩, hS.F ht⟩) hS.2.2 dX2_hasNose_20
theorem dX2_hasFollower_0 : decode cX2_hasFollower 0 = .ok (.iload_n 1, 1) := by decide +kernel
theorem dX2_hasFollower_1 : decode cX2_hasFollower 1 = .ok (.ifCond .lt 18, 3) := by decide +kernel
theorem dX2_hasFollower_4 : decode cX2_hasFollower 4 = .ok (.iload_n 1, 1) := by decide +kernel
theorem dX2_hasFollower_5 : decode cX2_hasFollower 5 = .ok (.aload_n 0, 1) := by decide +kernel
theorem dX2_hasFollower_6 : decode cX2_hasFollower 6 = .ok (.getfield 21, 3) := by decide +kernel
theorem dX2_hasFollower_9 : decode cX2_hasFollower 9 = .ok (.getfield 53, 3) := by decide +kernel
theorem dX2_hasFollower_12 : decode cX2_hasFollower 12 = .ok (.if_icmp .ge 7, 3) := by decide +kernel
theorem dX2_hasFollower_15 : decode cX2_hasFollower 15 = .ok (.iconst 1, 1) := by decide +kernel
theorem dX2_hasFollower_16 : decode cX2_hasFollower 16 = .ok (.goto 4, 3) := by decide +kernel
theorem dX2_hasFollower_19 : decode cX2_hasFollower 19 = .ok (.iconst 0, 1) := by decide +kernel
theorem dX2_hasFollower_20 : decode cX2_hasFollower 20 = .ok (.ireturn, 1) := by decide +kernel
set_option maxHeartbeats 4000000 in
set_option maxRecDepth 100000 in
theorem s_X2_hasFollower (l : Launch) (dC : Nat → ClassId) (dI : Nat → Nat → Nat) (cI cZ cB cJ cM cG : ClassId) (a0 a1 a2 a3 a4 a5 a13 a14 a15 a16 a17 a18 a19 a20 a21 : Nat) (i0 i1 i2 i3 i4 i5 i6 i7 i8 i10 : Int32) (p0 : Int32) (sz : Nat) (p_0 : (0 : Int) ≤ i0.toInt ∧ i0.toInt ≤ 60) (p_1 : (0 : Int) ≤ i3.toInt ∧ i3.toInt ≤ 6) (p_2 : (0 : Int) ≤ i5.toInt ∧ i5.toInt ≤ 1) (p_3 : (0 : Int) ≤ i8.toInt ∧ i8.toInt ≤ 1) (p_4 : (0 : Int) ≤ i10.toInt ∧ i10.toInt ≤ 10) : Met l yX2_hasFollower (kw yX2_hasFollower cX2_hasFollower 2 (some .boolean)) ({ frames := 0, cells := 0, slots := 0, locals := 0 } : Room) (va_Pc [.ref a0, .int p0] (kPre dC dI [(cI, .int), (cZ, .boolean), (cB, .byte), (cJ, .long), (cM, .object RX2), (cG, .array .int)] [(a0, .inr (2, [.int i0, .int i1, .int i2, .int i3, .int i4, .int i5, .int i6, .int i7, .int i8, .ref a1, .ref a2, .ref a3, .ref a4, .ref a5])), (a2, .inr (1, [.int i10, .ref a13, .ref a14, .ref a15, .ref a16, .ref a17, .ref a18, .ref a19, .ref a20, .ref a21]))] sz)) (va_Qi (fun (r : Int32) (u9 : Unit) => ((0 : Int) ≤ r.toInt ∧ r.toInt ≤ 1) ∧ ((r.toInt ≠ 0 → p0.toInt ≥ 0 ∧ p0.toInt < i10.toInt)) ∧ True) (fun u9 t => va_P (dC, dI) vwCl [(a0, .inr (2, [.int i0, .int i1, .int i2, .int i3, .int i4, .int i5, .int i6, .int i7, .int i8, .ref a1, .ref a2, .ref a3, .ref a4, .ref a5])), (a2, .inr (1, [.int i10, .ref a13, .ref a14, .ref a15, .ref a16, .ref a17, .ref a18, .ref a19, .ref a20, .ref a21]))] t.heap ∧ va_D (va_A [(a0, .inr (2, [.int i0, .int i1, .int i2, .int i3, .int i4, .int i5, .int i6, .int i7, .int i8, .ref a1, .ref a2, .ref a3, .ref a4, .ref a5])), (a2, .inr (1, [.int i10, .ref a13, .ref a14, .ref a15, .ref a16, .ref a17, .ref a18, .ref a19, .ref a20, .ref a21]))] sz) [(a0, .inr (2, [.int i0, .int i1, .int i2, .int i3, .int i4, .int i5, .int i6, .int i7, .int i8, .ref a1, .ref a2, .ref a3, .ref a4, .ref a5])), (a2, .inr (1, [.int i10, .ref a13, .ref a14, .ref a15, .ref a16, .ref a17, .ref a18, .ref a19, .ref a20, .ref a21]))]) (va_A [(a0, .inr (2, [.int i0, .int i1, .int i2, .int i3, .int i4, .int i5, .int i6, .int i7, .int i8, .ref a1, .ref a2, .ref a3, .ref a4, .ref a5])), (a2, .inr (1, [.int i10, .ref a13, .ref a14, .ref a15, .ref a16, .ref a17, .ref a18, .ref a19, .ref a20, .ref a21]))] sz)) 0 0 (va_A [(a0, .inr (2, [.int i0, .int i1, .int i2, .int i3, .int i4, .int i5, .int i6, .int i7, .int i8, .ref a1, .ref a2, .ref a3, .ref a4, .ref a5])), (a2, .inr (1, [.int i10, .ref a13, .ref a14, .ref a15, .ref a16, .ref a17, .ref a18, .ref a19, .ref a20, .ref a21]))] sz) := by
  refine kEnter (by decide) (Nat.le_of_ble_eq_true rfl) ?_
  intro p e s m below meth c ls hx hb hr hml hown hlocks hin hwd hsz hP hK hD hl
  subst hsz
  generalize hAe : va_A [(a0, .inr (2, [.int i0, .int i1, .int i2, .int i3, .int i4, .int i5, .int i6, .int i7, .int i8, .ref a1, .ref a2, .ref a3, .ref a4, .ref a5])), (a2, .inr (1, [.int i10, .ref a13, .ref a14, .ref a15, .ref a16, .ref a17, .ref a18, .ref a19, .ref a20, .ref a21]))] s.heap.size = A at hD ⊢
  have hA : ∀ q : Nat, s.heap.size ≤ q → A q := fun q h => by rw [← hAe]; exact Or.inr h
  have hS : va_S A s.heap s.heap [] := va_S.rf
  have hl : lv_has ls 2 [(0, .ref a0), (1, .int p0)] := hl
  obtain ⟨Q, hQ⟩ : ∃ Q, Q = MQ below (va_Qi (fun (r : Int32) (u9 : Unit) => ((0 : Int) ≤ r.toInt ∧ r.toInt ≤ 1) ∧ ((r.toInt ≠ 0 → p0.toInt ≥ 0 ∧ p0.toInt < i10.toInt)) ∧ True) (fun u9 t => va_P (dC, dI) vwCl [(a0, .inr (2, [.int i0, .int i1, .int i2, .int i3, .int i4, .int i5, .int i6, .int i7, .int i8, .ref a1, .ref a2, .ref a3, .ref a4, .ref a5])), (a2, .inr (1, [.int i10, .ref a13, .ref a14, .ref a15, .ref a16, .ref a17, .ref a18, .ref a19, .ref a20, .ref a21]))] t.heap ∧ va_D A [(a0, .inr (2, [.int i0, .int i1, .int i2, .int i3, .int i4, .int i5, .int i6, .int i7, .int i8, .ref a1, .ref a2, .ref a3, .ref a4, .ref a5])), (a2, .inr (1, [.int i10, .ref a13, .ref a14, .ref a15, .ref a16, .ref a17, .ref a18, .ref a19, .ref a20, .ref a21]))]) A) ([.ref a0, .int p0] : List Value).toArray s 0 0 A := ⟨_, rfl⟩
  rw [← hQ]
  have k0 : (0 : Int32).toInt = 0 := by decide
  have k1 : (1 : Int32).toInt = 1 := by decide
  refine lv_iload_n hx hb dX2_hasFollower_0 rfl (lv_at hl 1 rfl) ?_
  refine lv_if_lt (tgt := 19) hx hb dX2_hasFollower_1 (by decide) (fun c1 => ?_) (fun c1 => ?_)
  · rw [ki_lt] at c1
    refine lv_iconst (v := 0) hx hb dX2_hasFollower_19 (by decide) ?_
    have hP9 := hP.sub (ws' := [(a0, .inr (2, [.int i0, .int i1, .int i2, .int i3, .int i4, .int i5, .int i6, .int i7, .int i8, .ref a1, .ref a2, .ref a3, .ref a4, .ref a5])), (a2, .inr (1, [.int i10, .ref a13, .ref a14, .ref a15, .ref a16, .ref a17, .ref a18, .ref a19, .ref a20, .ref a21]))]) [0, 1] rfl
    have hD9 := hD.sub (ws' := [(a0, .inr (2, [.int i0, .int i1, .int i2, .int i3, .int i4, .int i5, .int i6, .int i7, .int i8, .ref a1, .ref a2, .ref a3, .ref a4, .ref a5])), (a2, .inr (1, [.int i10, .ref a13, .ref a14, .ref a15, .ref a16, .ref a17, .ref a18, .ref a19, .ref a20, .ref a21]))]) [0, 1] (by decide) rfl
    rw [hQ]
    exact W.zret (v := 0) hx hb hr (by decide) (fun t ht hW => ⟨⟨0, (), rfl, ⟨(show (0 : Int) ≤ (0 : Int32).toInt ∧ (0 : Int32).toInt ≤ 1 from ⟨by omega, by omega⟩), (show ((0 : Int32).toInt ≠ 0 → p0.toInt ≥ 0 ∧ p0.toInt < i10.toInt) from by omega), trivial⟩, (by rw [ht]; exact hP9), hD9⟩, hS.F ht⟩) hS.2.2 dX2_hasFollower_20
  · rw [ki_lt] at c1
    refine lv_iload_n hx hb dX2_hasFollower_4 rfl (lv_at hl 1 rfl) ?_
    refine lv_aload_n hx hb dX2_hasFollower_5 rfl (lv_at hl 0 rfl) ?_
    refine va_get (D := (dC, dI)) (ci := 2) (v := .ref a2) (C := RX2) (T := TX2) (N := 14) hx hb hwd inlX2 hown hK hP 0 rfl rfl 10 (by decide) (hwd _ kr15_19) (fun _ h9 => h9) rfl dX2_hasFollower_6 ?_
    refine va_get (D := (dC, dI)) (ci := 1) (v := .int i10) (C := RX1) (T := TX1) (N := 10) hx hb hwd inlX1 hown hK hP 1 rfl rfl 0 (by decide) (hwd _ kr12_12) (fun _ h9 => h9) rfl dX2_hasFollower_9 ?_
    refine lv_icmp_ge (tgt := 19) hx hb dX2_hasFollower_12 (by decide) (fun c2 => ?_) (fun c2 => ?_)
    · rw [ki_le] at c2
      refine lv_iconst (v := 0) hx hb dX2_hasFollower_19 (by decide) ?_
      have hP9 := hP.sub (ws' := [(a0, .inr (2, [.int i0, .int i1, .int i2, .int i3, .int i4, .int i5, .int i6, .int i7, .int i8, .ref a1, .ref a2, .ref a3, .ref a4, .ref a5])), (a2, .inr (1, [.int i10, .ref a13, .ref a14, .ref a15, .ref a16, .ref a17, .ref a18, .ref a19, .ref a20, .ref a21]))]) [0, 1] rfl
      have hD9 := hD.sub (ws' := [(a0, .inr (2, [.int i0, .int i1, .int i2, .int i3, .int i4, .int i5, .int i6, .int i7, .int i8, .ref a1, .ref a2, .ref a3, .ref a4, .ref a5])), (a2, .inr (1, [.int i10, .ref a13, .ref a14, .ref a15, .ref a16, .ref a17, .ref a18, .ref a19, .ref a20, .ref a21]))]) [0, 1] (by decide) rfl
      rw [hQ]
      exact W.zret (v := 0) hx hb hr (by decide) (fun t ht hW => ⟨⟨0, (), rfl, ⟨(show (0 : Int) ≤ (0 : Int32).toInt ∧ (0 : Int32).toInt ≤ 1 from ⟨by omega, by omega⟩), (show ((0 : Int32).toInt ≠ 0 → p0.toInt ≥ 0 ∧ p0.toInt < i10.toInt) from by omega), trivial⟩, (by rw [ht]; exact hP9), hD9⟩, hS.F ht⟩) hS.2.2 dX2_hasFollower_20
    · rw [ki_le] at c2
      refine lv_iconst (v := 1) hx hb dX2_hasFollower_15 (by decide) ?_
      refine lv_goto (tgt := 20) hx hb dX2_hasFollower_16 (by decide) ?_
      have hP9 := hP.sub (ws' := [(a0, .inr (2, [.int i0, .int i1, .int i2, .int i3, .int i4, .int i5, .int i6, .int i7, .int i8, .ref a1, .ref a2, .ref a3, .ref a4, .ref a5])), (a2, .inr (1, [.int i10, .ref a13, .ref a14, .ref a15, .ref a16, .ref a17, .ref a18, .ref a19, .ref a20, .ref a21]))]) [0, 1] rfl
      have hD9 := hD.sub (ws' := [(a0, .inr (2, [.int i0, .int i1, .int i2, .int i3, .int i4, .int i5, .int i6, .int i7, .int i8, .ref a1, .ref a2, .ref a3, .ref a4, .ref a5])), (a2, .inr (1, [.int i10, .ref a13, .ref a14, .ref a15, .ref a16, .ref a17, .ref a18, .ref a19, .ref a20, .ref a21]))]) [0, 1] (by decide) rfl
      rw [hQ]
      exact W.zret (v := 1) hx hb hr (by decide) (fun t ht hW => ⟨⟨1, (), rfl, ⟨(show (0 : Int) ≤ (1 : Int32).toInt ∧ (1 : Int32).toInt ≤ 1 from ⟨by omega, by omega⟩), (show ((1 : Int32).toInt ≠ 0 → p0.toInt ≥ 0 ∧ p0.toInt < i10.toInt) from by omega), trivial⟩, (by rw [ht]; exact hP9), hD9⟩, hS.F ht⟩) hS.2.2 dX2_hasFollower_20
theorem dX2_hasPawl_0 : decode cX2_hasPawl 0 = .ok (.iload_n 1, 1) := by decide +kernel
theorem dX2_hasPawl_1 : decode cX2_hasPawl 1 = .ok (.ifCond .lt 18, 3) := by decide +kernel
theorem dX2_hasPawl_4 : decode cX2_hasPawl 4 = .ok (.iload_n 1, 1) := by decide +kernel
theorem dX2_hasPawl_5 : decode cX2_hasPawl 5 = .ok (.aload_n 0, 1) := by decide +kernel
theorem dX2_hasPawl_6 : decode cX2_hasPawl 6 = .ok (.getfield 28, 3) := by decide +kernel
theorem dX2_hasPawl_9 : decode cX2_hasPawl 9 = .ok (.getfield 54, 3) := by decide +kernel
theorem dX2_hasPawl_12 : decode cX2_hasPawl 12 = .ok (.if_icmp .ge 7, 3) := by decide +kernel
theorem dX2_hasPawl_15 : decode cX2_hasPawl 15 = .ok (.iconst 1, 1) := by decide +kernel
theorem dX2_hasPawl_16 : decode cX2_hasPawl 16 = .ok (.goto 4, 3) := by decide +kernel
theorem dX2_hasPawl_19 : decode cX2_hasPawl 19 = .ok (.iconst 0, 1) := by decide +kernel
theorem dX2_hasPawl_20 : decode cX2_hasPawl 20 = .ok (.ireturn, 1) := by decide +kernel
set_option maxHeartbeats 4000000 in
set_option maxRecDepth 100000 in
theorem s_X2_hasPawl (l : Launch) (dC : Nat → ClassId) (dI : Nat → Nat → Nat) (cI cZ cB cJ cM cG : ClassId) (a0 a1 a2 a3 a4 a5 a22 a23 a24 a25 : Nat) (i0 i1 i2 i3 i4 i5 i6 i7 i8 i11 : Int32) (p0 : Int32) (sz : Nat) (p_0 : (0 : Int) ≤ i0.toInt ∧ i0.toInt ≤ 60) (p_1 : (0 : Int) ≤ i3.toInt ∧ i3.toInt ≤ 6) (p_2 : (0 : Int) ≤ i5.toInt ∧ i5.toInt ≤ 1) (p_3 : (0 : Int) ≤ i8.toInt ∧ i8.toInt ≤ 1) (p_4 : (0 : Int) ≤ i11.toInt ∧ i11.toInt ≤ 4) : Met l yX2_hasPawl (kw yX2_hasPawl cX2_hasPawl 2 (some .boolean)) ({ frames := 0, cells := 0, slots := 0, locals := 0 } : Room) (va_Pc [.ref a0, .int p0] (kPre dC dI [(cI, .int), (cZ, .boolean), (cB, .byte), (cJ, .long), (cM, .object RX2), (cG, .array .int)] [(a0, .inr (2, [.int i0, .int i1, .int i2, .int i3, .int i4, .int i5, .int i6, .int i7, .int i8, .ref a1, .ref a2, .ref a3, .ref a4, .ref a5])), (a3, .inr (4, [.int i11, .ref a22, .ref a23, .ref a24, .ref a25]))] sz)) (va_Qi (fun (r : Int32) (u9 : Unit) => ((0 : Int) ≤ r.toInt ∧ r.toInt ≤ 1) ∧ ((r.toInt ≠ 0 → p0.toInt ≥ 0 ∧ p0.toInt < i11.toInt)) ∧ True) (fun u9 t => va_P (dC, dI) vwCl [(a0, .inr (2, [.int i0, .int i1, .int i2, .int i3, .int i4, .int i5, .int i6, .int i7, .int i8, .ref a1, .ref a2, .ref a3, .ref a4, .ref a5])), (a3, .inr (4, [.int i11, .ref a22, .ref a23, .ref a24, .ref a25]))] t.heap ∧ va_D (va_A [(a0, .inr (2, [.int i0, .int i1, .int i2, .int i3, .int i4, .int i5, .int i6, .int i7, .int i8, .ref a1, .ref a2, .ref a3, .ref a4, .ref a5])), (a3, .inr (4, [.int i11, .ref a22, .ref a23, .ref a24, .ref a25]))] sz) [(a0, .inr (2, [.int i0, .int i1, .int i2, .int i3, .int i4, .int i5, .int i6, .int i7, .int i8, .ref a1, .ref a2, .ref a3, .ref a4, .ref a5])), (a3, .inr (4, [.int i11, .ref a22, .ref a23, .ref a24, .ref a25]))]) (va_A [(a0, .inr (2, [.int i0, .int i1, .int i2, .int i3, .int i4, .int i5, .int i6, .int i7, .int i8, .ref a1, .ref a2, .ref a3, .ref a4, .ref a5])), (a3, .inr (4, [.int i11, .ref a22, .ref a23, .ref a24, .ref a25]))] sz)) 0 0 (va_A [(a0, .inr (2, [.int i0, .int i1, .int i2, .int i3, .int i4, .int i5, .int i6, .int i7, .int i8, .ref a1, .ref a2, .ref a3, .ref a4, .ref a5])), (a3, .inr (4, [.int i11, .ref a22, .ref a23, .ref a24, .ref a25]))] sz) := by
  refine kEnter (by decide) (Nat.le_of_ble_eq_true rfl) ?_
  intro p e s m below meth c ls hx hb hr hml hown hlocks hin hwd hsz hP hK hD hl
  subst hsz
  generalize hAe : va_A [(a0, .inr (2, [.int i0, .int i1, .int i2, .int i3, .int i4, .int i5, .int i6, .int i7, .int i8, .ref a1, .ref a2, .ref a3, .ref a4, .ref a5])), (a3, .inr (4, [.int i11, .ref a22, .ref a23, .ref a24, .ref a25]))] s.heap.size = A at hD ⊢
  have hA : ∀ q : Nat, s.heap.size ≤ q → A q := fun q h => by rw [← hAe]; exact Or.inr h
  have hS : va_S A s.heap s.heap [] := va_S.rf
  have hl : lv_has ls 2 [(0, .ref a0), (1, .int p0)] := hl
  obtain ⟨Q, hQ⟩ : ∃ Q, Q = MQ below (va_Qi (fun (r : Int32) (u9 : Unit) => ((0 : Int) ≤ r.toInt ∧ r.toInt ≤ 1) ∧ ((r.toInt ≠ 0 → p0.toInt ≥ 0 ∧ p0.toInt < i11.toInt)) ∧ True) (fun u9 t => va_P (dC, dI) vwCl [(a0, .inr (2, [.int i0, .int i1, .int i2, .int i3, .int i4, .int i5, .int i6, .int i7, .int i8, .ref a1, .ref a2, .ref a3, .ref a4, .ref a5])), (a3, .inr (4, [.int i11, .ref a22, .ref a23, .ref a24, .ref a25]))] t.heap ∧ va_D A [(a0, .inr (2, [.int i0, .int i1, .int i2, .int i3, .int i4, .int i5, .int i6, .int i7, .int i8, .ref a1, .ref a2, .ref a3, .ref a4, .ref a5])), (a3, .inr (4, [.int i11, .ref a22, .ref a23, .ref a24, .ref a25]))]) A) ([.ref a0, .int p0] : List Value).toArray s 0 0 A := ⟨_, rfl⟩
  rw [← hQ]
  have k0 : (0 : Int32).toInt = 0 := by decide
  have k1 : (1 : Int32).toInt = 1 := by decide
  refine lv_iload_n hx hb dX2_hasPawl_0 rfl (lv_at hl 1 rfl) ?_
  refine lv_if_lt (tgt := 19) hx hb dX2_hasPawl_1 (by decide) (fun c1 => ?_) (fun c1 => ?_)
  · rw [ki_lt] at c1
    refine lv_iconst (v := 0) hx hb dX2_hasPawl_19 (by decide) ?_
    have hP9 := hP.sub (ws' := [(a0, .inr (2, [.int i0, .int i1, .int i2, .int i3, .int i4, .int i5, .int i6, .int i7, .int i8, .ref a1, .ref a2, .ref a3, .ref a4, .ref a5])), (a3, .inr (4, [.int i11, .ref a22, .ref a23, .ref a24, .ref a25]))]) [0, 1] rfl
    have hD9 := hD.sub (ws' := [(a0, .inr (2, [.int i0, .int i1, .int i2, .int i3, .int i4, .int i5, .int i6, .int i7, .int i8, .ref a1, .ref a2, .ref a3, .ref a4, .ref a5])), (a3, .inr (4, [.int i11, .ref a22, .ref a23, .ref a24, .ref a25]))]) [0, 1] (by decide) rfl
    rw [hQ]
    exact W.zret (v := 0) hx hb hr (by decide) (fun t ht hW => ⟨⟨0, (), rfl, ⟨(show (0 : Int) ≤ (0 : Int32).toInt ∧ (0 : Int32).toInt ≤ 1 from ⟨by omega, by omega⟩), (show ((0 : Int32).toInt ≠ 0 → p0.toInt ≥ 0 ∧ p0.toInt < i11.toInt) from by omega), trivial⟩, (by rw [ht]; exact hP9), hD9⟩, hS.F ht⟩) hS.2.2 dX2_hasPawl_20
  · rw [ki_lt] at c1
    refine lv_iload_n hx hb dX2_hasPawl_4 rfl (lv_at hl 1 rfl) ?_
    refine lv_aload_n hx hb dX2_hasPawl_5 rfl (lv_at hl 0 rfl) ?_
    refine va_get (D := (dC, dI)) (ci := 2) (v := .ref a3) (C := RX2) (T := TX2) (N := 14) hx hb hwd inlX2 hown hK hP 0 rfl rfl 11 (by decide) (hwd _ kr15_23) (fun _ h9 => h9) rfl dX2_hasPawl_6 ?_
    refine va_get (D := (dC, dI)) (ci := 4) (v := .int i11) (C := RX4) (T := TX4) (N := 5) hx hb hwd inlX4 hown hK hP 1 rfl rfl 0 (by decide) (hwd _ kr13_14) (fun _ h9 => h9) rfl dX2_hasPawl_9 ?_
    refine lv_icmp_ge (tgt := 19) hx hb dX2_hasPawl_12 (by decide) (fun c2 => ?_) (fun c2 => ?_)
    · rw [ki_le] at c2
      refine lv_iconst (v := 0) hx hb dX2_hasPawl_19 (by decide) ?_
      have hP9 := hP.sub (ws' := [(a0, .inr (2, [.int i0, .int i1, .int i2, .int i3, .int i4, .int i5, .int i6, .int i7, .int i8, .ref a1, .ref a2, .ref a3, .ref a4, .ref a5])), (a3, .inr (4, [.int i11, .ref a22, .ref a23, .ref a24, .ref a25]))]) [0, 1] rfl
      have hD9 := hD.sub (ws' := [(a0, .inr (2, [.int i0, .int i1, .int i2, .int i3, .int i4, .int i5, .int i6, .int i7, .int i8, .ref a1, .ref a2, .ref a3, .ref a4, .ref a5])), (a3, .inr (4, [.int i11, .ref a22, .ref a23, .ref a24, .ref a25]))]) [0, 1] (by decide) rfl
      rw [hQ]
      exact W.zret (v := 0) hx hb hr (by decide) (fun t ht hW => ⟨⟨0, (), rfl, ⟨(show (0 : Int) ≤ (0 : Int32).toInt ∧ (0 : Int32).toInt ≤ 1 from ⟨by omega, by omega⟩), (show ((0 : Int32).toInt ≠ 0 → p0.toInt ≥ 0 ∧ p0.toInt < i11.toInt) from by omega), trivial⟩, (by rw [ht]; exact hP9), hD9⟩, hS.F ht⟩) hS.2.2 dX2_hasPawl_20
    · rw [ki_le] at c2
      refine lv_iconst (v := 1) hx hb dX2_hasPawl_15 (by decide) ?_
      refine lv_goto (tgt := 20) hx hb dX2_hasPawl_16 (by decide) ?_
      have hP9 := hP.sub (ws' := [(a0, .inr (2, [.int i0, .int i1, .int i2, .int i3, .int i4, .int i5, .int i6, .int i7, .int i8, .ref a1, .ref a2, .ref a3, .ref a4, .ref a5])), (a3, .inr (4, [.int i11, .ref a22, .ref a23, .ref a24, .ref a25]))]) [0, 1] rfl
      have hD9 := hD.sub (ws' := [(a0, .inr (2, [.int i0, .int i1, .int i2, .int i3, .int i4, .int i5, .int i6, .int i7, .int i8, .ref a1, .ref a2, .ref a3, .ref a4, .ref a5])), (a3, .inr (4, [.int i11, .ref a22, .ref a23, .ref a24, .ref a25]))]) [0, 1] (by decide) rfl
      rw [hQ]
      exact W.zret (v := 1) hx hb hr (by decide) (fun t ht hW => ⟨⟨1, (), rfl, ⟨(show (0 : Int) ≤ (1 : Int32).toInt ∧ (1 : Int32).toInt ≤ 1 from ⟨by omega, by omega⟩), (show ((1 : Int32).toInt ≠ 0 → p0.toInt ≥ 0 ∧ p0.toInt < i11.toInt) from by omega), trivial⟩, (by rw [ht]; exact hP9), hD9⟩, hS.F ht⟩) hS.2.2 dX2_hasPawl_20
theorem dX2_isTold_0 : decode cX2_isTold 0 = .ok (.aload_n 0, 1) := by decide +kernel
theorem dX2_isTold_1 : decode cX2_isTold 1 = .ok (.getfield 43, 3) := by decide +kernel
theorem dX2_isTold_4 : decode cX2_isTold 4 = .ok (.ifCond .le 7, 3) := by decide +kernel
theorem dX2_isTold_7 : decode cX2_isTold 7 = .ok (.iconst 1, 1) := by decide +kernel
theorem dX2_isTold_8 : decode cX2_isTold 8 = .ok (.goto 4, 3) := by decide +kernel
theorem dX2_isTold_11 : decode cX2_isTold 11 = .ok (.iconst 0, 1) := by decide +kernel
theorem dX2_isTold_12 : decode cX2_isTold 12 = .ok (.ireturn, 1) := by decide +kernel
set_option maxHeartbeats 4000000 in
set_option maxRecDepth 100000 in
theorem s_X2_isTold (l : Launch) (dC : Nat → ClassId) (dI : Nat → Nat → Nat) (cI cZ cB cJ cM cG : ClassId) (a0 a1 a2 a3 a4 a5 : Nat) (i0 i1 i2 i3 i4 i5 i6 i7 i8 : Int32) (sz : Nat) (p_0 : (0 : Int) ≤ i0.toInt ∧ i0.toInt ≤ 60) (p_1 : (0 : Int) ≤ i3.toInt ∧ i3.toInt ≤ 6) (p_2 : (0 : Int) ≤ i5.toInt ∧ i5.toInt ≤ 1) (p_3 : (0 : Int) ≤ i8.toInt ∧ i8.toInt ≤ 1) : Met l yX2_isTold (kw yX2_isTold cX2_isTold 1 (some .boolean)) ({ frames := 0, cells := 0, slots := 0, locals := 0 } : Room) (va_Pc [.ref a0] (kPre dC dI [(cI, .int), (cZ, .boolean), (cB, .byte), (cJ, .long), (cM, .object RX2), (cG, .array .int)] [(a0, .inr (2, [.int i0, .int i1, .int i2, .int i3, .int i4, .int i5, .int i6, .int i7, .int i8, .ref a1, .ref a2, .ref a3, .ref a4, .ref a5]))] sz)) (va_Qi (fun (r : Int32) (u9 : Unit) => ((0 : Int) ≤ r.toInt ∧ r.toInt ≤ 1) ∧ ((r.toInt ≠ 0 → i0.toInt ≥ 1)) ∧ True) (fun u9 t => va_P (dC, dI) vwCl [(a0, .inr (2, [.int i0, .int i1, .int i2, .int i3, .int i4, .int i5, .int i6, .int i7, .int i8, .ref a1, .ref a2, .ref a3, .ref a4, .ref a5]))] t.heap ∧ va_D (va_A [(a0, .inr (2, [.int i0, .int i1, .int i2, .int i3, .int i4, .int i5, .int i6, .int i7, .int i8, .ref a1, .ref a2, .ref a3, .ref a4, .ref a5]))] sz) [(a0, .inr (2, [.int i0, .int i1, .int i2, .int i3, .int i4, .int i5, .int i6, .int i7, .int i8, .ref a1, .ref a2, .ref a3, .ref a4, .ref a5]))]) (va_A [(a0, .inr (2, [.int i0, .int i1, .int i2, .int i3, .int i4, .int i5, .int i6, .int i7, .int i8, .ref a1, .ref a2, .ref a3, .ref a4, .ref a5]))] sz)) 0 0 (va_A [(a0, .inr (2, [.int i0, .int i1, .int i2, .int i3, .int i4, .int i5, .int i6, .int i7, .int i8, .ref a1, .ref a2, .ref a3, .ref a4, .ref a5]))] sz) := by
  refine kEnter (by decide) (Nat.le_of_ble_eq_true rfl) ?_
  intro p e s m below meth c ls hx hb hr hml hown hlocks hin hwd hsz hP hK hD hl
  subst hsz
  generalize hAe : va_A [(a0, .inr (2, [.int i0, .int i1, .int i2, .int i3, .int i4, .int i5, .int i6, .int i7, .int i8, .ref a1, .ref a2, .ref a3, .ref a4, .ref a5]))] s.heap.size = A at hD ⊢
  have hA : ∀ q : Nat, s.heap.size ≤ q → A q := fun q h => by rw [← hAe]; exact Or.inr h
  have hS : va_S A s.heap s.heap [] := va_S.rf
  have hl : lv_has ls 1 [(0, .ref a0)] := hl
  obtain ⟨Q, hQ⟩ : ∃ Q, Q = MQ below (va_Qi (fun (r : Int32) (u9 : Unit) => ((0 : Int) ≤ r.toInt ∧ r.toInt ≤ 1) ∧ ((r.toInt ≠ 0 → i0.toInt ≥ 1)) ∧ True) (fun u9 t => va_P (dC, dI) vwCl [(a0, .inr (2, [.int i0, .int i1, .int i2, .int i3, .int i4, .int i5, .int i6, .int i7, .int i8, .ref a1, .ref a2, .ref a3, .ref a4, .ref a5]))] t.heap ∧ va_D A [(a0, .inr (2, [.int i0, .int i1, .int i2, .int i3, .int i4, .int i5, .int i6, .int i7, .int i8, .ref a1, .ref a2, .ref a3, .ref a4, .ref a5]))]) A) ([.ref a0] : List Value).toArray s 0 0 A := ⟨_, rfl⟩
  rw [← hQ]
  have k0 : (0 : Int32).toInt = 0 := by decide
  have k1 : (1 : Int32).toInt = 1 := by decide
  refine lv_aload_n hx hb dX2_isTold_0 rfl (lv_at hl 0 rfl) ?_
  refine va_get (D := (dC, dI)) (ci := 2) (v := .int i0) (C := RX2) (T := TX2) (N := 14) hx hb hwd inlX2 hown hK hP 0 rfl rfl 0 (by decide) (hwd _ kr14_22) (fun _ h9 => h9) rfl dX2_isTold_1 ?_
  refine lv_if_le (tgt := 11) hx hb dX2_isTold_4 (by decide) (fun c1 => ?_) (fun c1 => ?_)
  · rw [ki_le] at c1
    refine lv_iconst (v := 0) hx hb dX2_isTold_11 (by decide) ?_
    have hP9 := hP.sub (ws' := [(a0, .inr (2, [.int i0, .int i1, .int i2, .int i3, .int i4, .int i5, .int i6, .int i7, .int i8, .ref a1, .ref a2, .ref a3, .ref a4, .ref a5]))]) [0] rfl
    have hD9 := hD.sub (ws' := [(a0, .inr (2, [.int i0, .int i1, .int i2, .int i3, .int i4, .int i5, .int i6, .int i7, .int i8, .ref a1, .ref a2, .ref a3, .ref a4, .ref a5]))]) [0] (by decide) rfl
    rw [hQ]
    exact W.zret (v := 0) hx hb hr (by decide) (fun t ht hW => ⟨⟨0, (), rfl, ⟨(show (0 : Int) ≤ (0 : Int32).toInt ∧ (0 : Int32).toInt ≤ 1 from ⟨by omega, by omega⟩), (show ((0 : Int32).toInt ≠ 0 → i0.toInt ≥ 1) from by omega), trivial⟩, (by rw [ht]; exact hP9), hD9⟩, hS.F ht⟩) hS.2.2 dX2_isTold_12
  · rw [ki_le] at c1
    refine lv_iconst (v := 1) hx hb dX2_isTold_7 (by decide) ?_
    refine lv_goto (tgt := 12) hx hb dX2_isTold_8 (by decide) ?_
    have hP9 := hP.sub (ws' := [(a0, .inr (2, [.int i0, .int i1, .int i2, .int i3, .int i4, .int i5, .int i6, .int i7, .int i8, .ref a1, .ref a2, .ref a3, .ref a4, .ref a5]))]) [0] rfl
    have hD9 := hD.sub (ws' := [(a0, .inr (2, [.int i0, .int i1, .int i2, .int i3, .int i4, .int i5, .int i6, .int i7, .int i8, .ref a1, .ref a2, .ref a3, .ref a4, .ref a5]))]) [0] (by decide) rfl
    rw [hQ]
    exact W.zret (v := 1) hx hb hr (by decide) (fun t ht hW => ⟨⟨1, (), rfl, ⟨(show (0 : Int) ≤ (1 : Int32).toInt ∧ (1 : Int32).toInt ≤ 1 from ⟨by omega, by omega⟩), (show ((1 : Int32).toInt ≠ 0 → i0.toInt ≥ 1) from by omega), trivial⟩, (by rw [ht]; exact hP9), hD9⟩, hS.F ht⟩) hS.2.2 dX2_isTold_12
theorem dX2_round_0 : decode cX2_round 0 = .ok (.aload_n 0, 1) := by decide +kernel
theorem dX2_round_1 : decode cX2_round 1 = .ok (.getfield 43, 3) := by decide +kernel
theorem dX2_round_4 : decode cX2_round 4 = .ok (.iconst 1, 1) := by decide +kernel
theorem dX2_round_5 : decode cX2_round 5 = .ok (.if_icmp .ge 7, 3) := by decide +kernel
theorem dX2_round_8 : decode cX2_round 8 = .ok (.iconst 0, 1) := by decide +kernel
theorem dX2_round_9 : decode cX2_round 9 = .ok (.goto 11, 3) := by decide +kernel
theorem dX2_round_12 : decode cX2_round 12 = .ok (.iload_n 1, 1) := by decide +kernel
theorem dX2_round_13 : decode cX2_round 13 = .ok (.aload_n 0, 1) := by decide +kernel
theorem dX2_round_14 : decode cX2_round 14 = .ok (.getfield 43, 3) := by decide +kernel
theorem dX2_round_17 : decode cX2_round 17 = .ok (.invokestatic 55, 3) := by decide +kernel
theorem dX2_round_20 : decode cX2_round 20 = .ok (.ireturn, 1) := by decide +kernel
set_option maxHeartbeats 4000000 in
set_option maxRecDepth 100000 in
theorem s_X2_round (l : Launch) (dC : Nat → ClassId) (dI : Nat → Nat → Nat) (cI cZ cB cJ cM cG : ClassId) (a0 a1 a2 a3 a4 a5 : Nat) (i0 i1 i2 i3 i4 i5 i6 i7 i8 : Int32) (p0 : Int32) (sz : Nat) (p_0 : (0 : Int) ≤ i0.toInt ∧ i0.toInt ≤ 60) (p_1 : (0 : Int) ≤ i3.toInt ∧ i3.toInt ≤ 6) (p_2 : (0 : Int) ≤ i5.toInt ∧ i5.toInt ≤ 1) (p_3 : (0 : Int) ≤ i8.toInt ∧ i8.toInt ≤ 1) : Met l yX2_round (kw yX2_round cX2_round 2 (some .int)) ({ frames := 1, cells := 0, slots := 0, locals := 22 } : Room) (va_Pc [.ref a0, .int p0] (kPre dC dI [(cI, .int), (cZ, .boolean), (cB, .byte), (cJ, .long), (cM, .object RX2), (cG, .array .int)] [(a0, .inr (2, [.int i0, .int i1, .int i2, .int i3, .int i4, .int i5, .int i6, .int i7, .int i8, .ref a1, .ref a2, .ref a3, .ref a4, .ref a5]))] sz)) (va_Qi (fun (r : Int32) (u9 : Unit) => ((0 : Int) ≤ r.toInt ∧ r.toInt ≤ 59) ∧ True) (fun u9 t => va_P (dC, dI) vwCl [(a0, .inr (2, [.int i0, .int i1, .int i2, .int i3, .int i4, .int i5, .int i6, .int i7, .int i8, .ref a1, .ref a2, .ref a3, .ref a4, .ref a5]))] t.heap ∧ va_D (va_A [(a0, .inr (2, [.int i0, .int i1, .int i2, .int i3, .int i4, .int i5, .int i6, .int i7, .int i8, .ref a1, .ref a2, .ref a3, .ref a4, .ref a5]))] sz) [(a0, .inr (2, [.int i0, .int i1, .int i2, .int i3, .int i4, .int i5, .int i6, .int i7, .int i8, .ref a1, .ref a2, .ref a3, .ref a4, .ref a5]))]) (va_A [(a0, .inr (2, [.int i0, .int i1, .int i2, .int i3, .int i4, .int i5, .int i6, .int i7, .int i8, .ref a1, .ref a2, .ref a3, .ref a4, .ref a5]))] sz)) 0 0 (va_A [(a0, .inr (2, [.int i0, .int i1, .int i2, .int i3, .int i4, .int i5, .int i6, .int i7, .int i8, .ref a1, .ref a2, .ref a3, .ref a4, .ref a5]))] sz) := by
  refine kEnter (by decide) (Nat.le_of_ble_eq_true rfl) ?_
  intro p e s m below meth c ls hx hb hr hml hown hlocks hin hwd hsz hP hK hD hl
  subst hsz
  generalize hAe : va_A [(a0, .inr (2, [.int i0, .int i1, .int i2, .int i3, .int i4, .int i5, .int i6, .int i7, .int i8, .ref a1, .ref a2, .ref a3, .ref a4, .ref a5]))] s.heap.size = A at hD ⊢
  have hA : ∀ q : Nat, s.heap.size ≤ q → A q := fun q h => by rw [← hAe]; exact Or.inr h
  have hS : va_S A s.heap s.heap [] := va_S.rf
  have hl : lv_has ls 2 [(0, .ref a0), (1, .int p0)] := hl
  obtain ⟨Q, hQ⟩ : ∃ Q, Q = MQ below (va_Qi (fun (r : Int32) (u9 : Unit) => ((0 : Int) ≤ r.toInt ∧ r.toInt ≤ 59) ∧ True) (fun u9 t => va_P (dC, dI) vwCl [(a0, .inr (2, [.int i0, .int i1, .int i2, .int i3, .int i4, .int i5, .int i6, .int i7, .int i8, .ref a1, .ref a2, .ref a3, .ref a4, .ref a5]))] t.heap ∧ va_D A [(a0, .inr (2, [.int i0, .int i1, .int i2, .int i3, .int i4, .int i5, .int i6, .int i7, .int i8, .ref a1, .ref a2, .ref a3, .ref a4, .ref a5]))]) A) ([.ref a0, .int p0] : List Value).toArray s 0 0 A := ⟨_, rfl⟩
  rw [← hQ]
  have k0 : (0 : Int32).toInt = 0 := by decide
  have k1 : (1 : Int32).toInt = 1 := by decide
  refine lv_aload_n hx hb dX2_round_0 rfl (lv_at hl 0 rfl) ?_
  refine va_get (D := (dC, dI)) (ci := 2) (v := .int i0) (C := RX2) (T := TX2) (N := 14) hx hb hwd inlX2 hown hK hP 0 rfl rfl 0 (by decide) (hwd _ kr14_22) (fun _ h9 => h9) rfl dX2_round_1 ?_
  refine lv_iconst (v := 1) hx hb dX2_round_4 (by decide) ?_
  refine lv_icmp_ge (tgt := 12) hx hb dX2_round_5 (by decide) (fun c1 => ?_) (fun c1 => ?_)
  · rw [ki_le] at c1
    refine lv_iload_n hx hb dX2_round_12 rfl (lv_at hl 1 rfl) ?_
    refine lv_aload_n hx hb dX2_round_13 rfl (lv_at hl 0 rfl) ?_
    refine va_get (D := (dC, dI)) (ci := 2) (v := .int i0) (C := RX2) (T := TX2) (N := 14) hx hb hwd inlX2 hown hK hP 0 rfl rfl 0 (by decide) (hwd _ kr14_22) (fun _ h9 => h9) rfl dX2_round_14 ?_
    have hPc := hP.sub (ws' := []) [] rfl
    have hDc := hD.sub (ws' := []) [] (by decide) rfl
    have hFc := va_free (wc := []) hD hS hA [] rfl
    refine va_calli (va_runS (As := [.int p0, .int i0]) (rest := []) ⟨hx, hb, hml, hown, hwd⟩ (s_J9_floorMod_7cf53 l dC dI cI cZ cB cJ cM cG p0 i0 s.heap.size (show (1 : Int) ≤ i0.toInt ∧ i0.toInt ≤ 60 from ⟨by omega, by omega⟩)) (va_cwS 2 hwd (gSJ kr26_7 kr26_8 kr6_5 kr26_9) rfl rfl rfl (by decide +kernel) ⟨Nat.le_of_ble_eq_true rfl, Nat.le_of_ble_eq_true rfl⟩) (kPreS hPc hK hDc) rfl rfl hl.1 rfl (lv_room (Nat.le_of_ble_eq_true rfl)) dX2_round_17 ⟨Nat.le_of_ble_eq_true rfl, Nat.le_of_ble_eq_true rfl⟩) hS (fun q _ h => hFc q h) hFc (fun r2 u3 t H1 locs ht9 hvm hw hB hz1 hk1 hS => ?_)
    obtain ⟨hw4, -⟩ := hw
    replace hw4 : 0 ≤ r2.toInt ∧ r2.toInt < i0.toInt := hw4
    obtain ⟨hP1, hD1⟩ := hB
    rw [ht9] at hP1
    obtain ⟨hP, hD⟩ := va_join (wr := [(a0, .inr (2, [.int i0, .int i1, .int i2, .int i3, .int i4, .int i5, .int i6, .int i7, .int i8, .ref a1, .ref a2, .ref a3, .ref a4, .ref a5]))]) (w1 := []) hP hD [] [0] rfl rfl (by decide) (by decide) hk1 hFc hP1 hD1
    generalize H1 = H at hP hS ⊢
    replace hP : va_P (dC, dI) vwCl [(a0, .inr (2, [.int i0, .int i1, .int i2, .int i3, .int i4, .int i5, .int i6, .int i7, .int i8, .ref a1, .ref a2, .ref a3, .ref a4, .ref a5]))] H := hP
    replace hD : va_D A [(a0, .inr (2, [.int i0, .int i1, .int i2, .int i3, .int i4, .int i5, .int i6, .int i7, .int i8, .ref a1, .ref a2, .ref a3, .ref a4, .ref a5]))] := hD
    have hP9 := hP.sub (ws' := [(a0, .inr (2, [.int i0, .int i1, .int i2, .int i3, .int i4, .int i5, .int i6, .int i7, .int i8, .ref a1, .ref a2, .ref a3, .ref a4, .ref a5]))]) [0] rfl
    have hD9 := hD.sub (ws' := [(a0, .inr (2, [.int i0, .int i1, .int i2, .int i3, .int i4, .int i5, .int i6, .int i7, .int i8, .ref a1, .ref a2, .ref a3, .ref a4, .ref a5]))]) [0] (by decide) rfl
    rw [hQ]
    exact W.iret (v := r2) hx hb hr (fun t ht hW => ⟨⟨r2, (), rfl, ⟨(show (0 : Int) ≤ r2.toInt ∧ r2.toInt ≤ 59 from ⟨by omega, by omega⟩), trivial⟩, (by rw [ht]; exact hP9), hD9⟩, hS.F ht⟩) hS.2.2 dX2_round_20
  · rw [ki_le] at c1
    refine lv_iconst (v := 0) hx hb dX2_round_8 (by decide) ?_
    refine lv_goto (tgt := 20) hx hb dX2_round_9 (by decide) ?_
    have hP9 := hP.sub (ws' := [(a0, .inr (2, [.int i0, .int i1, .int i2, .int i3, .int i4, .int i5, .int i6, .int i7, .int i8, .ref a1, .ref a2, .ref a3, .ref a4, .ref a5]))]) [0] rfl
    have hD9 := hD.sub (ws' := [(a0, .inr (2, [.int i0, .int i1, .int i2, .int i3, .int i4, .int i5, .int i6, .int i7, .int i8, .ref a1, .ref a2, .ref a3, .ref a4, .ref a5]))]) [0] (by decide) rfl
    rw [hQ]
    exact W.iret (v := 0) hx hb hr (fun t ht hW => ⟨⟨0, (), rfl, ⟨(show (0 : Int) ≤ (0 : Int32).toInt ∧ (0 : Int32).toInt ≤ 59 from ⟨by omega, by omega⟩), trivial⟩, (by rw [ht]; exact hP9), hD9⟩, hS.F ht⟩) hS.2.2 dX2_round_20
theorem dX2_secondStep_0 : decode cX2_secondStep 0 = .ok (.aload_n 0, 1) := by decide +kernel
theorem dX2_secondStep_1 : decode cX2_secondStep 1 = .ok (.getfield 61, 3) := by decide +kernel
theorem dX2_secondStep_4 : decode cX2_secondStep 4 = .ok (.iconst 1, 1) := by decide +kernel
theorem dX2_secondStep_5 : decode cX2_secondStep 5 = .ok (.if_icmp .ge 7, 3) := by decide +kernel
theorem dX2_secondStep_8 : decode cX2_secondStep 8 = .ok (.iconst 0, 1) := by decide +kernel
theorem dX2_secondStep_9 : decode cX2_secondStep 9 = .ok (.goto 18, 3) := by decide +kernel
theorem dX2_secondStep_12 : decode cX2_secondStep 12 = .ok (.aload_n 0, 1) := by decide +kernel
theorem dX2_secondStep_13 : decode cX2_secondStep 13 = .ok (.iload_n 1, 1) := by decide +kernel
theorem dX2_secondStep_14 : decode cX2_secondStep 14 = .ok (.aload_n 0, 1) := by decide +kernel
theorem dX2_secondStep_15 : decode cX2_secondStep 15 = .ok (.getfield 64, 3) := by decide +kernel
theorem dX2_secondStep_18 : decode cX2_secondStep 18 = .ok (.imul, 1) := by decide +kernel
theorem dX2_secondStep_19 : decode cX2_secondStep 19 = .ok (.aload_n 0, 1) := by decide +kernel
theorem dX2_secondStep_20 : decode cX2_secondStep 20 = .ok (.getfield 61, 3) := by decide +kernel
theorem dX2_secondStep_23 : decode cX2_secondStep 23 = .ok (.idiv, 1) := by decide +kernel
theorem dX2_secondStep_24 : decode cX2_secondStep 24 = .ok (.invokevirtual 67, 3) := by decide +kernel
theorem dX2_secondStep_27 : decode cX2_secondStep 27 = .ok (.ireturn, 1) := by decide +kernel
set_option maxHeartbeats 4000000 in
set_option maxRecDepth 100000 in
theorem s_X2_secondStep (l : Launch) (dC : Nat → ClassId) (dI : Nat → Nat → Nat) (cI cZ cB cJ cM cG : ClassId) (a0 a1 a2 a3 a4 a5 : Nat) (i0 i1 i2 i3 i4 i5 i6 i7 i8 : Int32) (p0 : Int32) (sz : Nat) (p_0 : (0 : Int) ≤ i0.toInt ∧ i0.toInt ≤ 60) (p_1 : (0 : Int) ≤ i3.toInt ∧ i3.toInt ≤ 6) (p_2 : (0 : Int) ≤ i5.toInt ∧ i5.toInt ≤ 1) (p_3 : (0 : Int) ≤ i8.toInt ∧ i8.toInt ≤ 1) : Met l yX2_secondStep (kw yX2_secondStep cX2_secondStep 2 (some .int)) ({ frames := 2, cells := 0, slots := 0, locals := 43 } : Room) (va_Pc [.ref a0, .int p0] (kPre dC dI [(cI, .int), (cZ, .boolean), (cB, .byte), (cJ, .long), (cM, .object RX2), (cG, .array .int)] [(a0, .inr (2, [.int i0, .int i1, .int i2, .int i3, .int i4, .int i5, .int i6, .int i7, .int i8, .ref a1, .ref a2, .ref a3, .ref a4, .ref a5]))] sz)) (va_Qi (fun (r : Int32) (u9 : Unit) => ((0 : Int) ≤ r.toInt ∧ r.toInt ≤ 59) ∧ True) (fun u9 t => va_P (dC, dI) vwCl [(a0, .inr (2, [.int i0, .int i1, .int i2, .int i3, .int i4, .int i5, .int i6, .int i7, .int i8, .ref a1, .ref a2, .ref a3, .ref a4, .ref a5]))] t.heap ∧ va_D (va_A [(a0, .inr (2, [.int i0, .int i1, .int i2, .int i3, .int i4, .int i5, .int i6, .int i7, .int i8, .ref a1, .ref a2, .ref a3, .ref a4, .ref a5]))] sz) [(a0, .inr (2, [.int i0, .int i1, .int i2, .int i3, .int i4, .int i5, .int i6, .int i7, .int i8, .ref a1, .ref a2, .ref a3, .ref a4, .ref a5]))]) (va_A [(a0, .inr (2, [.int i0, .int i1, .int i2, .int i3, .int i4, .int i5, .int i6, .int i7, .int i8, .ref a1, .ref a2, .ref a3, .ref a4, .ref a5]))] sz)) 0 0 (va_A [(a0, .inr (2, [.int i0, .int i1, .int i2, .int i3, .int i4, .int i5, .int i6, .int i7, .int i8, .ref a1, .ref a2, .ref a3, .ref a4, .ref a5]))] sz) := by
  refine kEnter (by decide) (Nat.le_of_ble_eq_true rfl) ?_
  intro p e s m below meth c ls hx hb hr hml hown hlocks hin hwd hsz hP hK hD hl
  subst hsz
  generalize hAe : va_A [(a0, .inr (2, [.int i0, .int i1, .int i2, .int i3, .int i4, .int i5, .int i6, .int i7, .int i8, .ref a1, .ref a2, .ref a3, .ref a4, .ref a5]))] s.heap.size = A at hD ⊢
  have hA : ∀ q : Nat, s.heap.size ≤ q → A q := fun q h => by rw [← hAe]; exact Or.inr h
  have hS : va_S A s.heap s.heap [] := va_S.rf
  have hl : lv_has ls 2 [(0, .ref a0), (1, .int p0)] := hl
  obtain ⟨Q, hQ⟩ : ∃ Q, Q = MQ below (va_Qi (fun (r : Int32) (u9 : Unit) => ((0 : Int) ≤ r.toInt ∧ r.toInt ≤ 59) ∧ True) (fun u9 t => va_P (dC, dI) vwCl [(a0, .inr (2, [.int i0, .int i1, .int i2, .int i3, .int i4, .int i5, .int i6, .int i7, .int i8, .ref a1, .ref a2, .ref a3, .ref a4, .ref a5]))] t.heap ∧ va_D A [(a0, .inr (2, [.int i0, .int i1, .int i2, .int i3, .int i4, .int i5, .int i6, .int i7, .int i8, .ref a1, .ref a2, .ref a3, .ref a4, .ref a5]))]) A) ([.ref a0, .int p0] : List Value).toArray s 0 0 A := ⟨_, rfl⟩
  rw [← hQ]
  have k0 : (0 : Int32).toInt = 0 := by decide
  have k1 : (1 : Int32).toInt = 1 := by decide
  refine lv_aload_n hx hb dX2_secondStep_0 rfl (lv_at hl 0 rfl) ?_
  refine va_get (D := (dC, dI)) (ci := 2) (v := .int i7) (C := RX2) (T := TX2) (N := 14) hx hb hwd inlX2 hown hK hP 0 rfl rfl 7 (by decide) (hwd _ kr15_13) (fun _ h9 => h9) rfl dX2_secondStep_1 ?_
  refine lv_iconst (v := 1) hx hb dX2_secondStep_4 (by decide) ?_
  refine lv_icmp_ge (tgt := 12) hx hb dX2_secondStep_5 (by decide) (fun c1 => ?_) (fun c1 => ?_)
  · rw [ki_le] at c1
    refine lv_aload_n hx hb dX2_secondStep_12 rfl (lv_at hl 0 rfl) ?_
    refine lv_iload_n hx hb dX2_secondStep_13 rfl (lv_at hl 1 rfl) ?_
    refine lv_aload_n hx hb dX2_secondStep_14 rfl (lv_at hl 0 rfl) ?_
    refine va_get (D := (dC, dI)) (ci := 2) (v := .int i6) (C := RX2) (T := TX2) (N := 14) hx hb hwd inlX2 hown hK hP 0 rfl rfl 6 (by decide) (hwd _ kr15_12) (fun _ h9 => h9) rfl dX2_secondStep_15 ?_
    refine lv_imul hx hb dX2_secondStep_18 ?_
    refine lv_topi (fun x2 ex2 => ?_)
    refine lv_aload_n hx hb dX2_secondStep_19 rfl (lv_at hl 0 rfl) ?_
    refine va_get (D := (dC, dI)) (ci := 2) (v := .int i7) (C := RX2) (T := TX2) (N := 14) hx hb hwd inlX2 hown hK hP 0 rfl rfl 7 (by decide) (hwd _ kr15_13) (fun _ h9 => h9) rfl dX2_secondStep_20 ?_
    refine lv_idiv hx hb dX2_secondStep_23 (fun h9 => by rw [ki_eq] at h9; omega) ?_
    refine lv_topi (fun x3 ex3 => ?_)
    have hPc := hP.sub (ws' := [(a0, .inr (2, [.int i0, .int i1, .int i2, .int i3, .int i4, .int i5, .int i6, .int i7, .int i8, .ref a1, .ref a2, .ref a3, .ref a4, .ref a5]))]) [0] rfl
    have hDc := hD.sub (ws' := [(a0, .inr (2, [.int i0, .int i1, .int i2, .int i3, .int i4, .int i5, .int i6, .int i7, .int i8, .ref a1, .ref a2, .ref a3, .ref a4, .ref a5]))]) [0] (by decide) rfl
    have hFc := va_free (wc := [(a0, .inr (2, [.int i0, .int i1, .int i2, .int i3, .int i4, .int i5, .int i6, .int i7, .int i8, .ref a1, .ref a2, .ref a3, .ref a4, .ref a5]))]) hD hS hA [0] rfl
    refine va_calli (va_runV (As := [.int x3]) (rest := []) ⟨hx, hb, hml, hown, hwd⟩ (s_X2_round l dC dI cI cZ cB cJ cM cG a0 a1 a2 a3 a4 a5 i0 i1 i2 i3 i4 i5 i6 i7 i8 x3 s.heap.size (show (0 : Int) ≤ i0.toInt ∧ i0.toInt ≤ 60 from p_0) (show (0 : Int) ≤ i3.toInt ∧ i3.toInt ≤ 6 from p_1) (show (0 : Int) ≤ i5.toInt ∧ i5.toInt ≤ 1 from p_2) (show (0 : Int) ≤ i8.toInt ∧ i8.toInt ≤ 1 from p_3)) (cwV 1 hwd (gV kr32_15 kr26_4 kr26_5 kr5_18 kr26_6) rfl rfl rfl (by decide +kernel) ⟨Nat.le_of_ble_eq_true rfl, Nat.le_of_ble_eq_true rfl⟩) (kPreV hPc hK hDc (ci := 2) (q0 := 0) rfl rfl) rfl rfl hl.1 rfl (lv_room (Nat.le_of_ble_eq_true rfl)) dX2_secondStep_24 ⟨Nat.le_of_ble_eq_true rfl, Nat.le_of_ble_eq_true rfl⟩) hS (fun q _ h => hFc q h) hFc (fun r4 u5 t H1 locs ht9 hvm hw hB hz1 hk1 hS => ?_)
    obtain ⟨hw6, -⟩ := hw
    replace hw6 : (0 : Int) ≤ r4.toInt ∧ r4.toInt ≤ 59 := hw6
    obtain ⟨hP1, hD1⟩ := hB
    rw [ht9] at hP1
    obtain ⟨hP, hD⟩ := va_join (wr := []) (w1 := [(a0, .inr (2, [.int i0, .int i1, .int i2, .int i3, .int i4, .int i5, .int i6, .int i7, .int i8, .ref a1, .ref a2, .ref a3, .ref a4, .ref a5]))]) hP hD [0] [] rfl rfl (by decide) (by decide) hk1 hFc hP1 hD1
    generalize H1 = H at hP hS ⊢
    replace hP : va_P (dC, dI) vwCl [(a0, .inr (2, [.int i0, .int i1, .int i2, .int i3, .int i4, .int i5, .int i6, .int i7, .int i8, .ref a1, .ref a2, .ref a3, .ref a4, .ref a5]))] H := hP
    replace hD : va_D A [(a0, .inr (2, [.int i0, .int i1, .int i2, .int i3, .int i4, .int i5, .int i6, .int i7, .int i8, .ref a1, .ref a2, .ref a3, .ref a4, .ref a5]))] := hD
    have hP9 := hP.sub (ws' := [(a0, .inr (2, [.int i0, .int i1, .int i2, .int i3, .int i4, .int i5, .int i6, .int i7, .int i8, .ref a1, .ref a2, .ref a3, .ref a4, .ref a5]))]) [0] rfl
    have hD9 := hD.sub (ws' := [(a0, .inr (2, [.int i0, .int i1, .int i2, .int i3, .int i4, .int i5, .int i6, .int i7, .int i8, .ref a1, .ref a2, .ref a3, .ref a4, .ref a5]))]) [0] (by decide) rfl
    rw [hQ]
    exact W.iret (v := r4) hx hb hr (fun t ht hW => ⟨⟨r4, (), rfl, ⟨(show (0 : Int) ≤ r4.toInt ∧ r4.toInt ≤ 59 from hw6), trivial⟩, (by rw [ht]; exact hP9), hD9⟩, hS.F ht⟩) hS.2.2 dX2_secondStep_27
  · rw [ki_le] at c1
    refine lv_iconst (v := 0) hx hb dX2_secondStep_8 (by decide) ?_
    refine lv_goto (tgt := 27) hx hb dX2_secondStep_9 (by decide) ?_
    have hP9 := hP.sub (ws' := [(a0, .inr (2, [.int i0, .int i1, .int i2, .int i3, .int i4, .int i5, .int i6, .int i7, .int i8, .ref a1, .ref a2, .ref a3, .ref a4, .ref a5]))]) [0] rfl
    have hD9 := hD.sub (ws' := [(a0, .inr (2, [.int i0, .int i1, .int i2, .int i3, .int i4, .int i5, .int i6, .int i7, .int i8, .ref a1, .ref a2, .ref a3, .ref a4, .ref a5]))]) [0] (by decide) rfl
    rw [hQ]
    exact W.iret (v := 0) hx hb hr (fun t ht hW => ⟨⟨0, (), rfl, ⟨(show (0 : Int) ≤ (0 : Int32).toInt ∧ (0 : Int32).toInt ≤ 59 from ⟨by omega, by omega⟩), trivial⟩, (by rw [ht]; exact hP9), hD9⟩, hS.F ht⟩) hS.2.2 dX2_secondStep_27
theorem dX2_clear_0 : decode cX2_clear 0 = .ok (.aload_n 0, 1) := by decide +kernel
theorem dX2_clear_1 : decode cX2_clear 1 = .ok (.iconst 0, 1) := by decide +kernel
theorem dX2_clear_2 : decode cX2_clear 2 = .ok (.putfield 43, 3) := by decide +kernel
theorem dX2_clear_5 : decode cX2_clear 5 = .ok (.aload_n 0, 1) := by decide +kernel
theorem dX2_clear_6 : decode cX2_clear 6 = .ok (.iconst 0, 1) := by decide +kernel
theorem dX2_clear_7 : decode cX2_clear 7 = .ok (.putfield 71, 3) := by decide +kernel
theorem dX2_clear_10 : decode cX2_clear 10 = .ok (.aload_n 0, 1) := by decide +kernel
theorem dX2_clear_11 : decode cX2_clear 11 = .ok (.iconst 0, 1) := by decide +kernel
theorem dX2_clear_12 : decode cX2_clear 12 = .ok (.putfield 74, 3) := by decide +kernel
theorem dX2_clear_15 : decode cX2_clear 15 = .ok (.aload_n 0, 1) := by decide +kernel
theorem dX2_clear_16 : decode cX2_clear 16 = .ok (.iconst 0, 1) := by decide +kernel
theorem dX2_clear_17 : decode cX2_clear 17 = .ok (.putfield 47, 3) := by decide +kernel
theorem dX2_clear_20 : decode cX2_clear 20 = .ok (.aload_n 0, 1) := by decide +kernel
theorem dX2_clear_21 : decode cX2_clear 21 = .ok (.iconst 0, 1) := by decide +kernel
theorem dX2_clear_22 : decode cX2_clear 22 = .ok (.putfield 77, 3) := by decide +kernel
theorem dX2_clear_25 : decode cX2_clear 25 = .ok (.aload_n 0, 1) := by decide +kernel
theorem dX2_clear_26 : decode cX2_clear 26 = .ok (.iconst 0, 1) := by decide +kernel
theorem dX2_clear_27 : decode cX2_clear 27 = .ok (.putfield 80, 3) := by decide +kernel
theorem dX2_clear_30 : decode cX2_clear 30 = .ok (.aload_n 0, 1) := by decide +kernel
theorem dX2_clear_31 : decode cX2_clear 31 = .ok (.iconst 1, 1) := by decide +kernel
theorem dX2_clear_32 : decode cX2_clear 32 = .ok (.putfield 64, 3) := by decide +kernel
theorem dX2_clear_35 : decode cX2_clear 35 = .ok (.aload_n 0, 1) := by decide +kernel
theorem dX2_clear_36 : decode cX2_clear 36 = .ok (.iconst 1, 1) := by decide +kernel
theorem dX2_clear_37 : decode cX2_clear 37 = .ok (.putfield 61, 3) := by decide +kernel
theorem dX2_clear_40 : decode cX2_clear 40 = .ok (.aload_n 0, 1) := by decide +kernel
theorem dX2_clear_41 : decode cX2_clear 41 = .ok (.iconst 0, 1) := by decide +kernel
theorem dX2_clear_42 : decode cX2_clear 42 = .ok (.putfield 84, 3) := by decide +kernel
theorem dX2_clear_45 : decode cX2_clear 45 = .ok (.aload_n 0, 1) := by decide +kernel
theorem dX2_clear_46 : decode cX2_clear 46 = .ok (.getfield 12, 3) := by decide +kernel
theorem dX2_clear_49 : decode cX2_clear 49 = .ok (.iconst 0, 1) := by decide +kernel
theorem dX2_clear_50 : decode cX2_clear 50 = .ok (.putfield 50, 3) := by decide +kernel
theorem dX2_clear_53 : decode cX2_clear 53 = .ok (.aload_n 0, 1) := by decide +kernel
theorem dX2_clear_54 : decode cX2_clear 54 = .ok (.getfield 21, 3) := by decide +kernel
theorem dX2_clear_57 : decode cX2_clear 57 = .ok (.iconst 0, 1) := by decide +kernel
theorem dX2_clear_58 : decode cX2_clear 58 = .ok (.putfield 53, 3) := by decide +kernel
theorem dX2_clear_61 : decode cX2_clear 61 = .ok (.aload_n 0, 1) := by decide +kernel
theorem dX2_clear_62 : decode cX2_clear 62 = .ok (.getfield 28, 3) := by decide +kernel
theorem dX2_clear_65 : decode cX2_clear 65 = .ok (.iconst 0, 1) := by decide +kernel
theorem dX2_clear_66 : decode cX2_clear 66 = .ok (.putfield 54, 3) := by decide +kernel
theorem dX2_clear_69 : decode cX2_clear 69 = .ok (.aload_n 0, 1) := by decide +kernel
theorem dX2_clear_70 : decode cX2_clear 70 = .ok (.getfield 35, 3) := by decide +kernel
theorem dX2_clear_73 : decode cX2_clear 73 = .ok (.invokevirtual 87, 3) := by decide +kernel
theorem dX2_clear_76 : decode cX2_clear 76 = .ok (.return_, 1) := by decide +kernel
set_option maxHeartbeats 4000000 in
set_option maxRecDepth 100000 in
theorem s_X2_clear (l : Launch) (dC : Nat → ClassId) (dI : Nat → Nat → Nat) (cI cZ cB cJ cM cG : ClassId) (a0 a1 a2 a3 a4 a5 a6 a7 a8 a9 a10 a11 a12 a13 a14 a15 a16 a17 a18 a19 a20 a21 a22 a23 a24 a25 : Nat) (i0 i1 i2 i3 i4 i5 i6 i7 i8 i9 i10 i11 i12 i13 i14 i15 i16 i17 i18 i19 : Int32) (sz : Nat) (p_0 : (0 : Int) ≤ i0.toInt ∧ i0.toInt ≤ 60) (p_1 : (0 : Int) ≤ i3.toInt ∧ i3.toInt ≤ 6) (p_2 : (0 : Int) ≤ i5.toInt ∧ i5.toInt ≤ 1) (p_3 : (0 : Int) ≤ i8.toInt ∧ i8.toInt ≤ 1) (p_4 : (0 : Int) ≤ i9.toInt ∧ i9.toInt ≤ 24) (p_5 : (0 : Int) ≤ i10.toInt ∧ i10.toInt ≤ 10) (p_6 : (0 : Int) ≤ i11.toInt ∧ i11.toInt ≤ 4) : Met l yX2_clear (kw yX2_clear cX2_clear 1 none) ({ frames := 1, cells := 0, slots := 0, locals := 20 } : Room) (va_Pc [.ref a0] (kPre dC dI [(cI, .int), (cZ, .boolean), (cB, .byte), (cJ, .long), (cM, .object RX2), (cG, .array .int)] [(a0, .inr (2, [.int i0, .int i1, .int i2, .int i3, .int i4, .int i5, .int i6, .int i7, .int i8, .ref a1, .ref a2, .ref a3, .ref a4, .ref a5])), (a1, .inr (3, [.int i9, .ref a6, .ref a7, .ref a8, .ref a9, .ref a10, .ref a11, .ref a12])), (a2, .inr (1, [.int i10, .ref a13, .ref a14, .ref a15, .ref a16, .ref a17, .ref a18, .ref a19, .ref a20, .ref a21])), (a3, .inr (4, [.int i11, .ref a22, .ref a23, .ref a24, .ref a25])), (a4, .inr (7, [.int i12, .int i13, .int i14, .int i15, .int i16, .int i17, .int i18, .int i19]))] sz)) (va_Qv (fun (u9 : (Nat → Int32) × (Nat → Nat → Int32) × (Nat → Nat → Int64)) => ((0 : Int) ≤ (u9.1 0).toInt ∧ (u9.1 0).toInt ≤ 60) ∧ ((0 : Int) ≤ (u9.1 3).toInt ∧ (u9.1 3).toInt ≤ 6) ∧ ((0 : Int) ≤ (u9.1 5).toInt ∧ (u9.1 5).toInt ≤ 1) ∧ ((0 : Int) ≤ (u9.1 8).toInt ∧ (u9.1 8).toInt ≤ 1) ∧ ((0 : Int) ≤ (u9.1 9).toInt ∧ (u9.1 9).toInt ≤ 24) ∧ ((0 : Int) ≤ (u9.1 10).toInt ∧ (u9.1 10).toInt ≤ 10) ∧ ((0 : Int) ≤ (u9.1 11).toInt ∧ (u9.1 11).toInt ≤ 4) ∧ True) (fun u9 t => va_P (dC, dI) vwCl [(a0, .inr (2, [.int (u9.1 0), .int (u9.1 1), .int (u9.1 2), .int (u9.1 3), .int (u9.1 4), .int (u9.1 5), .int (u9.1 6), .int (u9.1 7), .int (u9.1 8), .ref a1, .ref a2, .ref a3, .ref a4, .ref a5])), (a1, .inr (3, [.int (u9.1 9), .ref a6, .ref a7, .ref a8, .ref a9, .ref a10, .ref a11, .ref a12])), (a2, .inr (1, [.int (u9.1 10), .ref a13, .ref a14, .ref a15, .ref a16, .ref a17, .ref a18, .ref a19, .ref a20, .ref a21])), (a3, .inr (4, [.int (u9.1 11), .ref a22, .ref a23, .ref a24, .ref a25])), (a4, .inr (7, [.int (u9.1 12), .int (u9.1 13), .int (u9.1 14), .int (u9.1 15), .int (u9.1 16), .int (u9.1 17), .int (u9.1 18), .int (u9.1 19)]))] t.heap ∧ va_D (va_A [(a0, .inr (2, [.int i0, .int i1, .int i2, .int i3, .int i4, .int i5, .int i6, .int i7, .int i8, .ref a1, .ref a2, .ref a3, .ref a4, .ref a5])), (a1, .inr (3, [.int i9, .ref a6, .ref a7, .ref a8, .ref a9, .ref a10, .ref a11, .ref a12])), (a2, .inr (1, [.int i10, .ref a13, .ref a14, .ref a15, .ref a16, .ref a17, .ref a18, .ref a19, .ref a20, .ref a21])), (a3, .inr (4, [.int i11, .ref a22, .ref a23, .ref a24, .ref a25])), (a4, .inr (7, [.int i12, .int i13, .int i14, .int i15, .int i16, .int i17, .int i18, .int i19]))] sz) [(a0, .inr (2, [.int (u9.1 0), .int (u9.1 1), .int (u9.1 2), .int (u9.1 3), .int (u9.1 4), .int (u9.1 5), .int (u9.1 6), .int (u9.1 7), .int (u9.1 8), .ref a1, .ref a2, .ref a3, .ref a4, .ref a5])), (a1, .inr (3, [.int (u9.1 9), .ref a6, .ref a7, .ref a8, .ref a9, .ref a10, .ref a11, .ref a12])), (a2, .inr (1, [.int (u9.1 10), .ref a13, .ref a14, .ref a15, .ref a16, .ref a17, .ref a18, .ref a19, .ref a20, .ref a21])), (a3, .inr (4, [.int (u9.1 11), .ref a22, .ref a23, .ref a24, .ref a25])), (a4, .inr (7, [.int (u9.1 12), .int (u9.1 13), .int (u9.1 14), .int (u9.1 15), .int (u9.1 16), .int (u9.1 17), .int (u9.1 18), .int (u9.1 19)]))]) (va_A [(a0, .inr (2, [.int i0, .int i1, .int i2, .int i3, .int i4, .int i5, .int i6, .int i7, .int i8, .ref a1, .ref a2, .ref a3, .ref a4, .ref a5])), (a1, .inr (3, [.int i9, .ref a6, .ref a7, .ref a8, .ref a9, .ref a10, .ref a11, .ref a12])), (a2, .inr (1, [.int i10, .ref a13, .ref a14, .ref a15, .ref a16, .ref a17, .ref a18, .ref a19, .ref a20, .ref a21])), (a3, .inr (4, [.int i11, .ref a22, .ref a23, .ref a24, .ref a25])), (a4, .inr (7, [.int i12, .int i13, .int i14, .int i15, .int i16, .int i17, .int i18, .int i19]))] sz)) 0 0 (va_A [(a0, .inr (2, [.int i0, .int i1, .int i2, .int i3, .int i4, .int i5, .int i6, .int i7, .int i8, .ref a1, .ref a2, .ref a3, .ref a4, .ref a5])), (a1, .inr (3, [.int i9, .ref a6, .ref a7, .ref a8, .ref a9, .ref a10, .ref a11, .ref a12])), (a2, .inr (1, [.int i10, .ref a13, .ref a14, .ref a15, .ref a16, .ref a17, .ref a18, .ref a19, .ref a20, .ref a21])), (a3, .inr (4, [.int i11, .ref a22, .ref a23, .ref a24, .ref a25])), (a4, .inr (7, [.int i12, .int i13, .int i14, .int i15, .int i16, .int i17, .int i18, .int i19]))] sz) := by
  refine kEnter (by decide) (Nat.le_of_ble_eq_true rfl) ?_
  intro p e s m below meth c ls hx hb hr hml hown hlocks hin hwd hsz hP hK hD hl
  subst hsz
  generalize hAe : va_A [(a0, .inr (2, [.int i0, .int i1, .int i2, .int i3, .int i4, .int i5, .int i6, .int i7, .int i8, .ref a1, .ref a2, .ref a3, .ref a4, .ref a5])), (a1, .inr (3, [.int i9, .ref a6, .ref a7, .ref a8, .ref a9, .ref a10, .ref a11, .ref a12])), (a2, .inr (1, [.int i10, .ref a13, .ref a14, .ref a15, .ref a16, .ref a17, .ref a18, .ref a19, .ref a20, .ref a21])), (a3, .inr (4, [.int i11, .ref a22, .ref a23, .ref a24, .ref a25])), (a4, .inr (7, [.int i12, .int i13, .int i14, .int i15, .int i16, .int i17, .int i18, .int i19]))] s.heap.size = A at hD ⊢
  have hA : ∀ q : Nat, s.heap.size ≤ q → A q := fun q h => by rw [← hAe]; exact Or.inr h
  have hS : va_S A s.heap s.heap [] := va_S.rf
  have hl : lv_has ls 1 [(0, .ref a0)] := hl
  obtain ⟨Q, hQ⟩ : ∃ Q, Q = MQ below (va_Qv (fun (u9 : (Nat → Int32) × (Nat → Nat → Int32) × (Nat → Nat → Int64)) => ((0 : Int) ≤ (u9.1 0).toInt ∧ (u9.1 0).toInt ≤ 60) ∧ ((0 : Int) ≤ (u9.1 3).toInt ∧ (u9.1 3).toInt ≤ 6) ∧ ((0 : Int) ≤ (u9.1 5).toInt ∧ (u9.1 5).toInt ≤ 1) ∧ ((0 : Int) ≤ (u9.1 8).toInt ∧ (u9.1 8).toInt ≤ 1) ∧ ((0 : Int) ≤ (u9.1 9).toInt ∧ (u9.1 9).toInt ≤ 24) ∧ ((0 : Int) ≤ (u9.1 10).toInt ∧ (u9.1 10).toInt ≤ 10) ∧ ((0 : Int) ≤ (u9.1 11).toInt ∧ (u9.1 11).toInt ≤ 4) ∧ True) (fun u9 t => va_P (dC, dI) vwCl [(a0, .inr (2, [.int (u9.1 0), .int (u9.1 1), .int (u9.1 2), .int (u9.1 3), .int (u9.1 4), .int (u9.1 5), .int (u9.1 6), .int (u9.1 7), .int (u9.1 8), .ref a1, .ref a2, .ref a3, .ref a4, .ref a5])), (a1, .inr (3, [.int (u9.1 9), .ref a6, .ref a7, .ref a8, .ref a9, .ref a10, .ref a11, .ref a12])), (a2, .inr (1, [.int (u9.1 10), .ref a13, .ref a14, .ref a15, .ref a16, .ref a17, .ref a18, .ref a19, .ref a20, .ref a21])), (a3, .inr (4, [.int (u9.1 11), .ref a22, .ref a23, .ref a24, .ref a25])), (a4, .inr (7, [.int (u9.1 12), .int (u9.1 13), .int (u9.1 14), .int (u9.1 15), .int (u9.1 16), .int (u9.1 17), .int (u9.1 18), .int (u9.1 19)]))] t.heap ∧ va_D A [(a0, .inr (2, [.int (u9.1 0), .int (u9.1 1), .int (u9.1 2), .int (u9.1 3), .int (u9.1 4), .int (u9.1 5), .int (u9.1 6), .int (u9.1 7), .int (u9.1 8), .ref a1, .ref a2, .ref a3, .ref a4, .ref a5])), (a1, .inr (3, [.int (u9.1 9), .ref a6, .ref a7, .ref a8, .ref a9, .ref a10, .ref a11, .ref a12])), (a2, .inr (1, [.int (u9.1 10), .ref a13, .ref a14, .ref a15, .ref a16, .ref a17, .ref a18, .ref a19, .ref a20, .ref a21])), (a3, .inr (4, [.int (u9.1 11), .ref a22, .ref a23, .ref a24, .ref a25])), (a4, .inr (7, [.int (u9.1 12), .int (u9.1 13), .int (u9.1 14), .int (u9.1 15), .int (u9.1 16), .int (u9.1 17), .int (u9.1 18), .int (u9.1 19)]))]) A) ([.ref a0] : List Value).toArray s 0 0 A := ⟨_, rfl⟩
  rw [← hQ]
  have k0 : (0 : Int32).toInt = 0 := by decide
  refine lv_aload_n hx hb dX2_clear_0 rfl (lv_at hl 0 rfl) ?_
  refine lv_iconst (v := 0) hx hb dX2_clear_1 (by decide) ?_
  refine va_put (D := (dC, dI)) (ci := 2) (v := .int 0) (ty := .int) (C := RX2) (T := TX2) (N := 14) hx hb hwd inlX2 tyX2 tyX2_ok nmX2 hown hK hP hD hS 0 rfl rfl 0 (by decide) (hwd _ kr14_22) (fun _ h9 => h9) rfl (by decide +kernel) rfl rfl (Nat.le_of_ble_eq_true rfl) dX2_clear_2 (fun H locs hP hD hS => ?_)
  replace hP : va_P (dC, dI) vwCl [(a0, .inr (2, [.int 0, .int i1, .int i2, .int i3, .int i4, .int i5, .int i6, .int i7, .int i8, .ref a1, .ref a2, .ref a3, .ref a4, .ref a5])), (a1, .inr (3, [.int i9, .ref a6, .ref a7, .ref a8, .ref a9, .ref a10, .ref a11, .ref a12])), (a2, .inr (1, [.int i10, .ref a13, .ref a14, .ref a15, .ref a16, .ref a17, .ref a18, .ref a19, .ref a20, .ref a21])), (a3, .inr (4, [.int i11, .ref a22, .ref a23, .ref a24, .ref a25])), (a4, .inr (7, [.int i12, .int i13, .int i14, .int i15, .int i16, .int i17, .int i18, .int i19]))] H := hP
  replace hD : va_D A [(a0, .inr (2, [.int 0, .int i1, .int i2, .int i3, .int i4, .int i5, .int i6, .int i7, .int i8, .ref a1, .ref a2, .ref a3, .ref a4, .ref a5])), (a1, .inr (3, [.int i9, .ref a6, .ref a7, .ref a8, .ref a9, .ref a10, .ref a11, .ref a12])), (a2, .inr (1, [.int i10, .ref a13, .ref a14, .ref a15, .ref a16, .ref a17, .ref a18, .ref a19, .ref a20, .ref a21])), (a3, .inr (4, [.int i11, .ref a22, .ref a23, .ref a24, .ref a25])), (a4, .inr (7, [.int i12, .int i13, .int i14, .int i15, .int i16, .int i17, .int i18, .int i19]))] := hD
  refine lv_aload_n hx hb dX2_clear_5 rfl (lv_at hl 0 rfl) ?_
  refine lv_iconst (v := 0) hx hb dX2_clear_6 (by decide) ?_
  refine va_put (D := (dC, dI)) (ci := 2) (v := .int 0) (ty := .int) (C := RX2) (T := TX2) (N := 14) hx hb hwd inlX2 tyX2 tyX2_ok nmX2 hown hK hP hD hS 0 rfl rfl 1 (by decide) (hwd _ kr15_2) (fun _ h9 => h9) rfl (by decide +kernel) rfl rfl (Nat.le_of_ble_eq_true rfl) dX2_clear_7 (fun H locs hP hD hS => ?_)
  replace hP : va_P (dC, dI) vwCl [(a0, .inr (2, [.int 0, .int 0, .int i2, .int i3, .int i4, .int i5, .int i6, .int i7, .int i8, .ref a1, .ref a2, .ref a3, .ref a4, .ref a5])), (a1, .inr (3, [.int i9, .ref a6, .ref a7, .ref a8, .ref a9, .ref a10, .ref a11, .ref a12])), (a2, .inr (1, [.int i10, .ref a13, .ref a14, .ref a15, .ref a16, .ref a17, .ref a18, .ref a19, .ref a20, .ref a21])), (a3, .inr (4, [.int i11, .ref a22, .ref a23, .ref a24, .ref a25])), (a4, .inr (7, [.int i12, .int i13, .int i14, .int i15, .int i16, .int i17, .int i18, .int i19]))] H := hP
  replace hD : va_D A [(a0, .inr (2, [.int 0, .int 0, .int i2, .int i3, .int i4, .int i5, .int i6, .int i7, .int i8, .ref a1, .ref a2, .ref a3, .ref a4, .ref a5])), (a1, .inr (3, [.int i9, .ref a6, .ref a7, .ref a8, .ref a9, .ref a10, .ref a11, .ref a12])), (a2, .inr (1, [.int i10, .ref a13, .ref a14, .ref a15, .ref a16, .ref a17, .ref a18, .ref a19, .ref a20, .ref a21])), (a3, .inr (4, [.int i11, .ref a22, .ref a23, .ref a24, .ref a25])), (a4, .inr (7, [.int i12, .int i13, .int i14, .int i15, .int i16, .int i17, .int i18, .int i19]))] := hD
  refine lv_aload_n hx hb dX2_clear_10 rfl (lv_at hl 0 rfl) ?_
  refine lv_iconst (v := 0) hx hb dX2_clear_11 (by decide) ?_
  refine va_put (D := (dC, dI)) (ci := 2) (v := .int 0) (ty := .int) (C := RX2) (T := TX2) (N := 14) hx hb hwd inlX2 tyX2 tyX2_ok nmX2 hown hK hP hD hS 0 rfl rfl 2 (by decide) (hwd _ kr15_4) (fun _ h9 => h9) rfl (by decide +kernel) rfl rfl (Nat.le_of_ble_eq_true rfl) dX2_clear_12 (fun H locs hP hD hS => ?_)
  replace hP : va_P (dC, dI) vwCl [(a0, .inr (2, [.int 0, .int 0, .int 0, .int i3, .int i4, .int i5, .int i6, .int i7, .int i8, .ref a1, .ref a2, .ref a3, .ref a4, .ref a5])), (a1, .inr (3, [.int i9, .ref a6, .ref a7, .ref a8, .ref a9, .ref a10, .ref a11, .ref a12])), (a2, .inr (1, [.int i10, .ref a13, .ref a14, .ref a15, .ref a16, .ref a17, .ref a18, .ref a19, .ref a20, .ref a21])), (a3, .inr (4, [.int i11, .ref a22, .ref a23, .ref a24, .ref a25])), (a4, .inr (7, [.int i12, .int i13, .int i14, .int i15, .int i16, .int i17, .int i18, .int i19]))] H := hP
  replace hD : va_D A [(a0, .inr (2, [.int 0, .int 0, .int 0, .int i3, .int i4, .int i5, .int i6, .int i7, .int i8, .ref a1, .ref a2, .ref a3, .ref a4, .ref a5])), (a1, .inr (3, [.int i9, .ref a6, .ref a7, .ref a8, .ref a9, .ref a10, .ref a11, .ref a12])), (a2, .inr (1, [.int i10, .ref a13, .ref a14, .ref a15, .ref a16, .ref a17, .ref a18, .ref a19, .ref a20, .ref a21])), (a3, .inr (4, [.int i11, .ref a22, .ref a23, .ref a24, .ref a25])), (a4, .inr (7, [.int i12, .int i13, .int i14, .int i15, .int i16, .int i17, .int i18, .int i19]))] := hD
  refine lv_aload_n hx hb dX2_clear_15 rfl (lv_at hl 0 rfl) ?_
  refine lv_iconst (v := 0) hx hb dX2_clear_16 (by decide) ?_
  refine va_put (D := (dC, dI)) (ci := 2) (v := .int 0) (ty := .int) (C := RX2) (T := TX2) (N := 14) hx hb hwd inlX2 tyX2 tyX2_ok nmX2 hown hK hP hD hS 0 rfl rfl 3 (by decide) (hwd _ kr15_6) (fun _ h9 => h9) rfl (by decide +kernel) rfl rfl (Nat.le_of_ble_eq_true rfl) dX2_clear_17 (fun H locs hP hD hS => ?_)
  replace hP : va_P (dC, dI) vwCl [(a0, .inr (2, [.int 0, .int 0, .int 0, .int 0, .int i4, .int i5, .int i6, .int i7, .int i8, .ref a1, .ref a2, .ref a3, .ref a4, .ref a5])), (a1, .inr (3, [.int i9, .ref a6, .ref a7, .ref a8, .ref a9, .ref a10, .ref a11, .ref a12])), (a2, .inr (1, [.int i10, .ref a13, .ref a14, .ref a15, .ref a16, .ref a17, .ref a18, .ref a19, .ref a20, .ref a21])), (a3, .inr (4, [.int i11, .ref a22, .ref a23, .ref a24, .ref a25])), (a4, .inr (7, [.int i12, .int i13, .int i14, .int i15, .int i16, .int i17, .int i18, .int i19]))] H := hP
  replace hD : va_D A [(a0, .inr (2, [.int 0, .int 0, .int 0, .int 0, .int i4, .int i5, .int i6, .int i7, .int i8, .ref a1, .ref a2, .ref a3, .ref a4, .ref a5])), (a1, .inr (3, [.int i9, .ref a6, .ref a7, .ref a8, .ref a9, .ref a10, .ref a11, .ref a12])), (a2, .inr (1, [.int i10, .ref a13, .ref a14, .ref a15, .ref a16, .ref a17, .ref a18, .ref a19, .ref a20, .ref a21])), (a3, .inr (4, [.int i11, .ref a22, .ref a23, .ref a24, .ref a25])), (a4, .inr (7, [.int i12, .int i13, .int i14, .int i15, .int i16, .int i17, .int i18, .int i19]))] := hD
  refine lv_aload_n hx hb dX2_clear_20 rfl (lv_at hl 0 rfl) ?_
  refine lv_iconst (v := 0) hx hb dX2_clear_21 (by decide) ?_
  refine va_put (D := (dC, dI)) (ci := 2) (v := .int 0) (ty := .int) (C := RX2) (T := TX2) (N := 14) hx hb hwd inlX2 tyX2 tyX2_ok nmX2 hown hK hP hD hS 0 rfl rfl 4 (by decide) (hwd _ kr15_9) (fun _ h9 => h9) rfl (by decide +kernel) rfl rfl (Nat.le_of_ble_eq_true rfl) dX2_clear_22 (fun H locs hP hD hS => ?_)
  replace hP : va_P (dC, dI) vwCl [(a0, .inr (2, [.int 0, .int 0, .int 0, .int 0, .int 0, .int i5, .int i6, .int i7, .int i8, .ref a1, .ref a2, .ref a3, .ref a4, .ref a5])), (a1, .inr (3, [.int i9, .ref a6, .ref a7, .ref a8, .ref a9, .ref a10, .ref a11, .ref a12])), (a2, .inr (1, [.int i10, .ref a13, .ref a14, .ref a15, .ref a16, .ref a17, .ref a18, .ref a19, .ref a20, .ref a21])), (a3, .inr (4, [.int i11, .ref a22, .ref a23, .ref a24, .ref a25])), (a4, .inr (7, [.int i12, .int i13, .int i14, .int i15, .int i16, .int i17, .int i18, .int i19]))] H := hP
  replace hD : va_D A [(a0, .inr (2, [.int 0, .int 0, .int 0, .int 0, .int 0, .int i5, .int i6, .int i7, .int i8, .ref a1, .ref a2, .ref a3, .ref a4, .ref a5])), (a1, .inr (3, [.int i9, .ref a6, .ref a7, .ref a8, .ref a9, .ref a10, .ref a11, .ref a12])), (a2, .inr (1, [.int i10, .ref a13, .ref a14, .ref a15, .ref a16, .ref a17, .ref a18, .ref a19, .ref a20, .ref a21])), (a3, .inr (4, [.int i11, .ref a22, .ref a23, .ref a24, .ref a25])), (a4, .inr (7, [.int i12, .int i13, .int i14, .int i15, .int i16, .int i17, .int i18, .int i19]))] := hD
  refine lv_aload_n hx hb dX2_clear_25 rfl (lv_at hl 0 rfl) ?_
  refine lv_iconst (v := 0) hx hb dX2_clear_26 (by decide) ?_
  refine va_put (D := (dC, dI)) (ci := 2) (v := .int 0) (ty := .boolean) (C := RX2) (T := TX2) (N := 14) hx hb hwd inlX2 tyX2 tyX2_ok nmX2 hown hK hP hD hS 0 rfl rfl 5 (by decide) (hwd _ kr15_11) (fun _ h9 => h9) rfl (by decide +kernel) rfl rfl (Nat.le_of_ble_eq_true rfl) dX2_clear_27 (fun H locs hP hD hS => ?_)
  replace hP : va_P (dC, dI) vwCl [(a0, .inr (2, [.int 0, .int 0, .int 0, .int 0, .int 0, .int 0, .int i6, .int i7, .int i8, .ref a1, .ref a2, .ref a3, .ref a4, .ref a5])), (a1, .inr (3, [.int i9, .ref a6, .ref a7, .ref a8, .ref a9, .ref a10, .ref a11, .ref a12])), (a2, .inr (1, [.int i10, .ref a13, .ref a14, .ref a15, .ref a16, .ref a17, .ref a18, .ref a19, .ref a20, .ref a21])), (a3, .inr (4, [.int i11, .ref a22, .ref a23, .ref a24, .ref a25])), (a4, .inr (7, [.int i12, .int i13, .int i14, .int i15, .int i16, .int i17, .int i18, .int i19]))] H := hP
  replace hD : va_D A [(a0, .inr (2, [.int 0, .int 0, .int 0, .int 0, .int 0, .int 0, .int i6, .int i7, .int i8, .ref a1, .ref a2, .ref a3, .ref a4, .ref a5])), (a1, .inr (3, [.int i9, .ref a6, .ref a7, .ref a8, .ref a9, .ref a10, .ref a11, .ref a12])), (a2, .inr (1, [.int i10, .ref a13, .ref a14, .ref a15, .ref a16, .ref a17, .ref a18, .ref a19, .ref a20, .ref a21])), (a3, .inr (4, [.int i11, .ref a22, .ref a23, .ref a24, .ref a25])), (a4, .inr (7, [.int i12, .int i13, .int i14, .int i15, .int i16, .int i17, .int i18, .int i19]))] := hD
  refine lv_aload_n hx hb dX2_clear_30 rfl (lv_at hl 0 rfl) ?_
  refine lv_iconst (v := 1) hx hb dX2_clear_31 (by decide) ?_
  refine va_put (D := (dC, dI)) (ci := 2) (v := .int 1) (ty := .int) (C := RX2) (T := TX2) (N := 14) hx hb hwd inlX2 tyX2 tyX2_ok nmX2 hown hK hP hD hS 0 rfl rfl 6 (by decide) (hwd _ kr15_12) (fun _ h9 => h9) rfl (by decide +kernel) rfl rfl (Nat.le_of_ble_eq_true rfl) dX2_clear_32 (fun H locs hP hD hS => ?_)
  replace hP : va_P (dC, dI) vwCl [(a0, .inr (2, [.int 0, .int 0, .int 0, .int 0, .int 0, .int 0, .int 1, .int i7, .int i8, .ref a1, .ref a2, .ref a3, .ref a4, .ref a5])), (a1, .inr (3, [.int i9, .ref a6, .ref a7, .ref a8, .ref a9, .ref a10, .ref a11, .ref a12])), (a2, .inr (1, [.int i10, .ref a13, .ref a14, .ref a15, .ref a16, .ref a17, .ref a18, .ref a19, .ref a20, .ref a21])), (a3, .inr (4, [.int i11, .ref a22, .ref a23, .ref a24, .ref a25])), (a4, .inr (7, [.int i12, .int i13, .int i14, .int i15, .int i16, .int i17, .int i18, .int i19]))] H := hP
  replace hD : va_D A [(a0, .inr (2, [.int 0, .int 0, .int 0, .int 0, .int 0, .int 0, .int 1, .int i7, .int i8, .ref a1, .ref a2, .ref a3, .ref a4, .ref a5])), (a1, .inr (3, [.int i9, .ref a6, .ref a7, .ref a8, .ref a9, .ref a10, .ref a11, .ref a12])), (a2, .inr (1, [.int i10, .ref a13, .ref a14, .ref a15, .ref a16, .ref a17, .ref a18, .ref a19, .ref a20, .ref a21])), (a3, .inr (4, [.int i11, .ref a22, .ref a23, .ref a24, .ref a25])), (a4, .inr (7, [.int i12, .int i13, .int i14, .int i15, .int i16, .int i17, .int i18, .int i19]))] := hD
  refine lv_aload_n hx hb dX2_clear_35 rfl (lv_at hl 0 rfl) ?_
  refine lv_iconst (v := 1) hx hb dX2_clear_36 (by decide) ?_
  refine va_put (D := (dC, dI)) (ci := 2) (v := .int 1) (ty := .int) (C := RX2) (T := TX2) (N := 14) hx hb hwd inlX2 tyX2 tyX2_ok nmX2 hown hK hP hD hS 0 rfl rfl 7 (by decide) (hwd _ kr15_13) (fun _ h9 => h9) rfl (by decide +kernel) rfl rfl (Nat.le_of_ble_eq_true rfl) dX2_clear_37 (fun H locs hP hD hS => ?_)
  replace hP : va_P (dC, dI) vwCl [(a0, .inr (2, [.int 0, .int 0, .int 0, .int 0, .int 0, .int 0, .int 1, .int 1, .int i8, .ref a1, .ref a2, .ref a3, .ref a4, .ref a5])), (a1, .inr (3, [.int i9, .ref a6, .ref a7, .ref a8, .ref a9, .ref a10, .ref a11, .ref a12])), (a2, .inr (1, [.int i10, .ref a13, .ref a14, .ref a15, .ref a16, .ref a17, .ref a18, .ref a19, .ref a20, .ref a21])), (a3, .inr (4, [.int i11, .ref a22, .ref a23, .ref a24, .ref a25])), (a4, .inr (7, [.int i12, .int i13, .int i14, .int i15, .int i16, .int i17, .int i18, .int i19]))] H := hP
  replace hD : va_D A [(a0, .inr (2, [.int 0, .int 0, .int 0, .int 0, .int 0, .int 0, .int 1, .int 1, .int i8, .ref a1, .ref a2, .ref a3, .ref a4, .ref a5])), (a1, .inr (3, [.int i9, .ref a6, .ref a7, .ref a8, .ref a9, .ref a10, .ref a11, .ref a12])), (a2, .inr (1, [.int i10, .ref a13, .ref a14, .ref a15, .ref a16, .ref a17, .ref a18, .ref a19, .ref a20, .ref a21])), (a3, .inr (4, [.int i11, .ref a22, .ref a23, .ref a24, .ref a25])), (a4, .inr (7, [.int i12, .int i13, .int i14, .int i15, .int i16, .int i17, .int i18, .int i19]))] := hD
  refine lv_aload_n hx hb dX2_clear_40 rfl (lv_at hl 0 rfl) ?_
  refine lv_iconst (v := 0) hx hb dX2_clear_41 (by decide) ?_
  refine va_put (D := (dC, dI)) (ci := 2) (v := .int 0) (ty := .boolean) (C := RX2) (T := TX2) (N := 14) hx hb hwd inlX2 tyX2 tyX2_ok nmX2 hown hK hP hD hS 0 rfl rfl 8 (by decide) (hwd _ kr15_14) (fun _ h9 => h9) rfl (by decide +kernel) rfl rfl (Nat.le_of_ble_eq_true rfl) dX2_clear_42 (fun H locs hP hD hS => ?_)
  replace hP : va_P (dC, dI) vwCl [(a0, .inr (2, [.int 0, .int 0, .int 0, .int 0, .int 0, .int 0, .int 1, .int 1, .int 0, .ref a1, .ref a2, .ref a3, .ref a4, .ref a5])), (a1, .inr (3, [.int i9, .ref a6, .ref a7, .ref a8, .ref a9, .ref a10, .ref a11, .ref a12])), (a2, .inr (1, [.int i10, .ref a13, .ref a14, .ref a15, .ref a16, .ref a17, .ref a18, .ref a19, .ref a20, .ref a21])), (a3, .inr (4, [.int i11, .ref a22, .ref a23, .ref a24, .ref a25])), (a4, .inr (7, [.int i12, .int i13, .int i14, .int i15, .int i16, .int i17, .int i18, .int i19]))] H := hP
  replace hD : va_D A [(a0, .inr (2, [.int 0, .int 0, .int 0, .int 0, .int 0, .int 0, .int 1, .int 1, .int 0, .ref a1, .ref a2, .ref a3, .ref a4, .ref a5])), (a1, .inr (3, [.int i9, .ref a6, .ref a7, .ref a8, .ref a9, .ref a10, .ref a11, .ref a12])), (a2, .inr (1, [.int i10, .ref a13, .ref a14, .ref a15, .ref a16, .ref a17, .ref a18, .ref a19, .ref a20, .ref a21])), (a3, .inr (4, [.int i11, .ref a22, .ref a23, .ref a24, .ref a25])), (a4, .inr (7, [.int i12, .int i13, .int i14, .int i15, .int i16, .int i17, .int i18, .int i19]))] := hD
  refine lv_aload_n hx hb dX2_clear_45 rfl (lv_at hl 0 rfl) ?_
  refine va_get (D := (dC, dI)) (ci := 2) (v := .ref a1) (C := RX2) (T := TX2) (N := 14) hx hb hwd inlX2 hown hK hP 0 rfl rfl 9 (by decide) (hwd _ kr15_15) (fun _ h9 => h9) rfl dX2_clear_46 ?_
  refine lv_iconst (v := 0) hx hb dX2_clear_49 (by decide) ?_
  refine va_put (D := (dC, dI)) (ci := 3) (v := .int 0) (ty := .int) (C := RX3) (T := TX3) (N := 8) hx hb hwd inlX3 tyX3 tyX3_ok nmX3 hown hK hP hD hS 1 rfl rfl 0 (by decide) (hwd _ kr11_4) (fun _ h9 => h9) rfl (by decide +kernel) rfl rfl (Nat.le_of_ble_eq_true rfl) dX2_clear_50 (fun H locs hP hD hS => ?_)
  replace hP : va_P (dC, dI) vwCl [(a0, .inr (2, [.int 0, .int 0, .int 0, .int 0, .int 0, .int 0, .int 1, .int 1, .int 0, .ref a1, .ref a2, .ref a3, .ref a4, .ref a5])), (a1, .inr (3, [.int 0, .ref a6, .ref a7, .ref a8, .ref a9, .ref a10, .ref a11, .ref a12])), (a2, .inr (1, [.int i10, .ref a13, .ref a14, .ref a15, .ref a16, .ref a17, .ref a18, .ref a19, .ref a20, .ref a21])), (a3, .inr (4, [.int i11, .ref a22, .ref a23, .ref a24, .ref a25])), (a4, .inr (7, [.int i12, .int i13, .int i14, .int i15, .int i16, .int i17, .int i18, .int i19]))] H := hP
  replace hD : va_D A [(a0, .inr (2, [.int 0, .int 0, .int 0, .int 0, .int 0, .int 0, .int 1, .int 1, .int 0, .ref a1, .ref a2, .ref a3, .ref a4, .ref a5])), (a1, .inr (3, [.int 0, .ref a6, .ref a7, .ref a8, .ref a9, .ref a10, .ref a11, .ref a12])), (a2, .inr (1, [.int i10, .ref a13, .ref a14, .ref a15, .ref a16, .ref a17, .ref a18, .ref a19, .ref a20, .ref a21])), (a3, .inr (4, [.int i11, .ref a22, .ref a23, .ref a24, .ref a25])), (a4, .inr (7, [.int i12, .int i13, .int i14, .int i15, .int i16, .int i17, .int i18, .int i19]))] := hD
  refine lv_aload_n hx hb dX2_clear_53 rfl (lv_at hl 0 rfl) ?_
  refine va_get (D := (dC, dI)) (ci := 2) (v := .ref a2) (C := RX2) (T := TX2) (N := 14) hx hb hwd inlX2 hown hK hP 0 rfl rfl 10 (by decide) (hwd _ kr15_19) (fun _ h9 => h9) rfl dX2_clear_54 ?_
  refine lv_iconst (v := 0) hx hb dX2_clear_57 (by decide) ?_
  refine va_put (D := (dC, dI)) (ci := 1) (v := .int 0) (ty := .int) (C := RX1) (T := TX1) (N := 10) hx hb hwd inlX1 tyX1 tyX1_ok nmX1 hown hK hP hD hS 2 rfl rfl 0 (by decide) (hwd _ kr12_12) (fun _ h9 => h9) rfl (by decide +kernel) rfl rfl (Nat.le_of_ble_eq_true rfl) dX2_clear_58 (fun H locs hP hD hS => ?_)
  replace hP : va_P (dC, dI) vwCl [(a0, .inr (2, [.int 0, .int 0, .int 0, .int 0, .int 0, .int 0, .int 1, .int 1, .int 0, .ref a1, .ref a2, .ref a3, .ref a4, .ref a5])), (a1, .inr (3, [.int 0, .ref a6, .ref a7, .ref a8, .ref a9, .ref a10, .ref a11, .ref a12])), (a2, .inr (1, [.int 0, .ref a13, .ref a14, .ref a15, .ref a16, .ref a17, .ref a18, .ref a19, .ref a20, .ref a21])), (a3, .inr (4, [.int i11, .ref a22, .ref a23, .ref a24, .ref a25])), (a4, .inr (7, [.int i12, .int i13, .int i14, .int i15, .int i16, .int i17, .int i18, .int i19]))] H := hP
  replace hD : va_D A [(a0, .inr (2, [.int 0, .int 0, .int 0, .int 0, .int 0, .int 0, .int 1, .int 1, .int 0, .ref a1, .ref a2, .ref a3, .ref a4, .ref a5])), (a1, .inr (3, [.int 0, .ref a6, .ref a7, .ref a8, .ref a9, .ref a10, .ref a11, .ref a12])), (a2, .inr (1, [.int 0, .ref a13, .ref a14, .ref a15, .ref a16, .ref a17, .ref a18, .ref a19, .ref a20, .ref a21])), (a3, .inr (4, [.int i11, .ref a22, .ref a23, .ref a24, .ref a25])), (a4, .inr (7, [.int i12, .int i13, .int i14, .int i15, .int i16, .int i17, .int i18, .int i19]))] := hD
  refine lv_aload_n hx hb dX2_clear_61 rfl (lv_at hl 0 rfl) ?_
  refine va_get (D := (dC, dI)) (ci := 2) (v := .ref a3) (C := RX2) (T := TX2) (N := 14) hx hb hwd inlX2 hown hK hP 0 rfl rfl 11 (by decide) (hwd _ kr15_23) (fun _ h9 => h9) rfl dX2_clear_62 ?_
  refine lv_iconst (v := 0) hx hb dX2_clear_65 (by decide) ?_
  refine va_put (D := (dC, dI)) (ci := 4) (v := .int 0) (ty := .int) (C := RX4) (T := TX4) (N := 5) hx hb hwd inlX4 tyX4 tyX4_ok nmX4 hown hK hP hD hS 3 rfl rfl 0 (by decide) (hwd _ kr13_14) (fun _ h9 => h9) rfl (by decide +kernel) rfl rfl (Nat.le_of_ble_eq_true rfl) dX2_clear_66 (fun H locs hP hD hS => ?_)
  replace hP : va_P (dC, dI) vwCl [(a0, .inr (2, [.int 0, .int 0, .int 0, .int 0, .int 0, .int 0, .int 1, .int 1, .int 0, .ref a1, .ref a2, .ref a3, .ref a4, .ref a5])), (a1, .inr (3, [.int 0, .ref a6, .ref a7, .ref a8, .ref a9, .ref a10, .ref a11, .ref a12])), (a2, .inr (1, [.int 0, .ref a13, .ref a14, .ref a15, .ref a16, .ref a17, .ref a18, .ref a19, .ref a20, .ref a21])), (a3, .inr (4, [.int 0, .ref a22, .ref a23, .ref a24, .ref a25])), (a4, .inr (7, [.int i12, .int i13, .int i14, .int i15, .int i16, .int i17, .int i18, .int i19]))] H := hP
  replace hD : va_D A [(a0, .inr (2, [.int 0, .int 0, .int 0, .int 0, .int 0, .int 0, .int 1, .int 1, .int 0, .ref a1, .ref a2, .ref a3, .ref a4, .ref a5])), (a1, .inr (3, [.int 0, .ref a6, .ref a7, .ref a8, .ref a9, .ref a10, .ref a11, .ref a12])), (a2, .inr (1, [.int 0, .ref a13, .ref a14, .ref a15, .ref a16, .ref a17, .ref a18, .ref a19, .ref a20, .ref a21])), (a3, .inr (4, [.int 0, .ref a22, .ref a23, .ref a24, .ref a25])), (a4, .inr (7, [.int i12, .int i13, .int i14, .int i15, .int i16, .int i17, .int i18, .int i19]))] := hD
  refine lv_aload_n hx hb dX2_clear_69 rfl (lv_at hl 0 rfl) ?_
  refine va_get (D := (dC, dI)) (ci := 2) (v := .ref a4) (C := RX2) (T := TX2) (N := 14) hx hb hwd inlX2 hown hK hP 0 rfl rfl 12 (by decide) (hwd _ kr16_1) (fun _ h9 => h9) rfl dX2_clear_70 ?_
  have hPc := hP.sub (ws' := [(a4, .inr (7, [.int i12, .int i13, .int i14, .int i15, .int i16, .int i17, .int i18, .int i19]))]) [4] rfl
  have hDc := hD.sub (ws' := [(a4, .inr (7, [.int i12, .int i13, .int i14, .int i15, .int i16, .int i17, .int i18, .int i19]))]) [4] (by decide) rfl
  have hFc := va_free (wc := [(a4, .inr (7, [.int i12, .int i13, .int i14, .int i15, .int i16, .int i17, .int i18, .int i19]))]) hD hS hA [4] rfl
  refine va_callv (va_runV (As := []) (rest := []) ⟨hx, hb, hml, hown, hwd⟩ (s_X7_clear l dC dI cI cZ cB cJ cM cG a4 i12 i13 i14 i15 i16 i17 i18 i19 H.size) (cwV 0 hwd (gV kr17_17 kr17_18 kr17_19 kr5_22 kr17_20) rfl rfl rfl (by decide +kernel) ⟨Nat.le_of_ble_eq_true rfl, Nat.le_of_ble_eq_true rfl⟩) (kPreV hPc hK hDc (ci := 7) (q0 := 0) rfl rfl) rfl rfl hl.1 rfl (lv_room (Nat.le_of_ble_eq_true rfl)) dX2_clear_73 ⟨Nat.le_of_ble_eq_true rfl, Nat.le_of_ble_eq_true rfl⟩) hS (fun q _ h => hFc q h) hFc (fun u2 t H1 locs ht9 hvm hw hB hz1 hk1 hS => ?_)
  obtain ⟨u3, U3, V3⟩ := u2
  obtain ⟨hP1, hD1⟩ := hB
  rw [ht9] at hP1
  obtain ⟨hP, hD⟩ := va_join (wr := [(a0, .inr (2, [.int 0, .int 0, .int 0, .int 0, .int 0, .int 0, .int 1, .int 1, .int 0, .ref a1, .ref a2, .ref a3, .ref a4, .ref a5])), (a1, .inr (3, [.int 0, .ref a6, .ref a7, .ref a8, .ref a9, .ref a10, .ref a11, .ref a12])), (a2, .inr (1, [.int 0, .ref a13, .ref a14, .ref a15, .ref a16, .ref a17, .ref a18, .ref a19, .ref a20, .ref a21])), (a3, .inr (4, [.int 0, .ref a22, .ref a23, .ref a24, .ref a25]))]) (w1 := [(a4, .inr (7, [.int (u3 0), .int (u3 1), .int (u3 2), .int (u3 3), .int (u3 4), .int (u3 5), .int (u3 6), .int (u3 7)]))]) hP hD [4] [0, 1, 2, 3] rfl rfl (by decide) (by decide) hk1 hFc hP1 hD1
  generalize H1 = H at hP hS ⊢
  replace hP : va_P (dC, dI) vwCl [(a0, .inr (2, [.int 0, .int 0, .int 0, .int 0, .int 0, .int 0, .int 1, .int 1, .int 0, .ref a1, .ref a2, .ref a3, .ref a4, .ref a5])), (a1, .inr (3, [.int 0, .ref a6, .ref a7, .ref a8, .ref a9, .ref a10, .ref a11, .ref a12])), (a2, .inr (1, [.int 0, .ref a13, .ref a14, .ref a15, .ref a16, .ref a17, .ref a18, .ref a19, .ref a20, .ref a21])), (a3, .inr (4, [.int 0, .ref a22, .ref a23, .ref a24, .ref a25])), (a4, .inr (7, [.int (u3 0), .int (u3 1), .int (u3 2), .int (u3 3), .int (u3 4), .int (u3 5), .int (u3 6), .int (u3 7)]))] H := hP
  replace hD : va_D A [(a0, .inr (2, [.int 0, .int 0, .int 0, .int 0, .int 0, .int 0, .int 1, .int 1, .int 0, .ref a1, .ref a2, .ref a3, .ref a4, .ref a5])), (a1, .inr (3, [.int 0, .ref a6, .ref a7, .ref a8, .ref a9, .ref a10, .ref a11, .ref a12])), (a2, .inr (1, [.int 0, .ref a13, .ref a14, .ref a15, .ref a16, .ref a17, .ref a18, .ref a19, .ref a20, .ref a21])), (a3, .inr (4, [.int 0, .ref a22, .ref a23, .ref a24, .ref a25])), (a4, .inr (7, [.int (u3 0), .int (u3 1), .int (u3 2), .int (u3 3), .int (u3 4), .int (u3 5), .int (u3 6), .int (u3 7)]))] := hD
  have hP9 := hP.sub (ws' := [(a0, .inr (2, [.int 0, .int 0, .int 0, .int 0, .int 0, .int 0, .int 1, .int 1, .int 0, .ref a1, .ref a2, .ref a3, .ref a4, .ref a5])), (a1, .inr (3, [.int 0, .ref a6, .ref a7, .ref a8, .ref a9, .ref a10, .ref a11, .ref a12])), (a2, .inr (1, [.int 0, .ref a13, .ref a14, .ref a15, .ref a16, .ref a17, .ref a18, .ref a19, .ref a20, .ref a21])), (a3, .inr (4, [.int 0, .ref a22, .ref a23, .ref a24, .ref a25])), (a4, .inr (7, [.int (u3 0), .int (u3 1), .int (u3 2), .int (u3 3), .int (u3 4), .int (u3 5), .int (u3 6), .int (u3 7)]))]) [0, 1, 2, 3, 4] rfl
  have hD9 := hD.sub (ws' := [(a0, .inr (2, [.int 0, .int 0, .int 0, .int 0, .int 0, .int 0, .int 1, .int 1, .int 0, .ref a1, .ref a2, .ref a3, .ref a4, .ref a5])), (a1, .inr (3, [.int 0, .ref a6, .ref a7, .ref a8, .ref a9, .ref a10, .ref a11, .ref a12])), (a2, .inr (1, [.int 0, .ref a13, .ref a14, .ref a15, .ref a16, .ref a17, .ref a18, .ref a19, .ref a20, .ref a21])), (a3, .inr (4, [.int 0, .ref a22, .ref a23, .ref a24, .ref a25])), (a4, .inr (7, [.int (u3 0), .int (u3 1), .int (u3 2), .int (u3 3), .int (u3 4), .int (u3 5), .int (u3 6), .int (u3 7)]))]) [0, 1, 2, 3, 4] (by decide) rfl
  rw [hQ]
  exact W.vret hx hb hr (fun t ht hW => ⟨⟨(pickG 0 [0, 0, 0, 0, 0, 0, 1, 1, 0, 0, 0, 0, (u3 0), (u3 1), (u3 2), (u3 3), (u3 4), (u3 5), (u3 6), (u3 7)], pickG (fun _ => 0) [], pickG (fun _ => 0) []), rfl, ⟨(show (0 : Int) ≤ (0 : Int32).toInt ∧ (0 : Int32).toInt ≤ 60 from ⟨by omega, by omega⟩), (show (0 : Int) ≤ (0 : Int32).toInt ∧ (0 : Int32).toInt ≤ 6 from ⟨by omega, by omega⟩), (show (0 : Int) ≤ (0 : Int32).toInt ∧ (0 : Int32).toInt ≤ 1 from ⟨by omega, by omega⟩), (show (0 : Int) ≤ (0 : Int32).toInt ∧ (0 : Int32).toInt ≤ 1 from ⟨by omega, by omega⟩), (show (0 : Int) ≤ (0 : Int32).toInt ∧ (0 : Int32).toInt ≤ 24 from ⟨by omega, by omega⟩), (show (0 : Int) ≤ (0 : Int32).toInt ∧ (0 : Int32).toInt ≤ 10 from ⟨by omega, by omega⟩), (show (0 : Int) ≤ (0 : Int32).toInt ∧ (0 : Int32).toInt ≤ 4 from ⟨by omega, by omega⟩), trivial⟩, (by rw [ht]; exact hP9), hD9⟩, hS.F ht⟩) hS.2.2 dX2_clear_76
