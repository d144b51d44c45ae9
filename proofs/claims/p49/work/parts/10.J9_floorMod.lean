theorem dJ9_floorMod_7cf53_0 : decode cJ9_floorMod_7cf53 0 = .ok (.iload_n 0, 1) := by decide +kernel
theorem dJ9_floorMod_7cf53_1 : decode cJ9_floorMod_7cf53 1 = .ok (.iload_n 1, 1) := by decide +kernel
theorem dJ9_floorMod_7cf53_2 : decode cJ9_floorMod_7cf53 2 = .ok (.irem, 1) := by decide +kernel
theorem dJ9_floorMod_7cf53_3 : decode cJ9_floorMod_7cf53 3 = .ok (.istore_n 2, 1) := by decide +kernel
theorem dJ9_floorMod_7cf53_4 : decode cJ9_floorMod_7cf53 4 = .ok (.iload_n 0, 1) := by decide +kernel
theorem dJ9_floorMod_7cf53_5 : decode cJ9_floorMod_7cf53 5 = .ok (.iload_n 1, 1) := by decide +kernel
theorem dJ9_floorMod_7cf53_6 : decode cJ9_floorMod_7cf53 6 = .ok (.ixor, 1) := by decide +kernel
theorem dJ9_floorMod_7cf53_7 : decode cJ9_floorMod_7cf53 7 = .ok (.ifCond .ge 11, 3) := by decide +kernel
theorem dJ9_floorMod_7cf53_10 : decode cJ9_floorMod_7cf53 10 = .ok (.iload_n 2, 1) := by decide +kernel
theorem dJ9_floorMod_7cf53_11 : decode cJ9_floorMod_7cf53 11 = .ok (.ifCond .eq 7, 3) := by decide +kernel
theorem dJ9_floorMod_7cf53_14 : decode cJ9_floorMod_7cf53 14 = .ok (.iload_n 2, 1) := by decide +kernel
theorem dJ9_floorMod_7cf53_15 : decode cJ9_floorMod_7cf53 15 = .ok (.iload_n 1, 1) := by decide +kernel
theorem dJ9_floorMod_7cf53_16 : decode cJ9_floorMod_7cf53 16 = .ok (.iadd, 1) := by decide +kernel
theorem dJ9_floorMod_7cf53_17 : decode cJ9_floorMod_7cf53 17 = .ok (.ireturn, 1) := by decide +kernel
theorem dJ9_floorMod_7cf53_18 : decode cJ9_floorMod_7cf53 18 = .ok (.iload_n 2, 1) := by decide +kernel
theorem dJ9_floorMod_7cf53_19 : decode cJ9_floorMod_7cf53 19 = .ok (.ireturn, 1) := by decide +kernel
set_option maxHeartbeats 4000000 in
set_option maxRecDepth 100000 in
theorem s_J9_floorMod_7cf53 (l : Launch) (dC : Nat → ClassId) (dI : Nat → Nat → Nat) (cI cZ cB cJ cM cG : ClassId) (p0 p1 : Int32) (sz : Nat) (p_0 : (1 : Int) ≤ p1.toInt ∧ p1.toInt ≤ 60) : Met l yJ9_floorMod_7cf53 (kw yJ9_floorMod_7cf53 cJ9_floorMod_7cf53 3 (some .int)) ({ frames := 0, cells := 0, slots := 0, locals := 0 } : Room) (va_Pc [.int p0, .int p1] (kPre dC dI [(cI, .int), (cZ, .boolean), (cB, .byte), (cJ, .long), (cM, .object RX2), (cG, .array .int)] [] sz)) (va_Qi (fun (r : Int32) (u9 : Unit) => (0 ≤ r.toInt ∧ r.toInt < p1.toInt) ∧ True) (fun u9 t => va_P (dC, dI) vwCl [] t.heap ∧ va_D (va_A [] sz) []) (va_A [] sz)) 0 0 (va_A [] sz) := by
  refine kEnterF (by decide +kernel) (Nat.le_of_ble_eq_true rfl) ?_
  intro p e s m below meth c ls hx hb hr hml hown hlocks hin hwd hsz hP hK hD hl
  subst hsz
  generalize hAe : va_A [] s.heap.size = A at hD ⊢
  have hA : ∀ q : Nat, s.heap.size ≤ q → A q := fun q h => by rw [← hAe]; exact Or.inr h
  have hS : va_S A s.heap s.heap [] := va_S.rf
  have hl : lv_has ls 3 [(0, .int p0), (1, .int p1)] := hl
  obtain ⟨Q, hQ⟩ : ∃ Q, Q = MQ below (va_Qi (fun (r : Int32) (u9 : Unit) => (0 ≤ r.toInt ∧ r.toInt < p1.toInt) ∧ True) (fun u9 t => va_P (dC, dI) vwCl [] t.heap ∧ va_D A []) A) ([.int p0, .int p1] : List Value).toArray s 0 0 A := ⟨_, rfl⟩
  rw [← hQ]
  have k0 : (0 : Int32).toInt = 0 := by decide
  refine lv_iload_n hx hb dJ9_floorMod_7cf53_0 rfl (lv_at hl 0 rfl) ?_
  refine lv_iload_n hx hb dJ9_floorMod_7cf53_1 rfl (lv_at hl 1 rfl) ?_
  refine lv_irem hx hb dJ9_floorMod_7cf53_2 (fun h9 => by rw [ki_eq] at h9; omega) ?_
  refine lv_topi (fun x1 ex1 => ?_)
  have tx1 := ir_any (a := p0) (b := p1) (by omega)
  rw [← ex1] at tx1
  refine lv_istore_n (lv' := [(2, .int x1), (0, .int p0), (1, .int p1)]) hx hb dJ9_floorMod_7cf53_3 rfl hl (by decide) rfl (fun ls hl => ?_)
  refine lv_iload_n hx hb dJ9_floorMod_7cf53_4 rfl (lv_at hl 1 rfl) ?_
  refine lv_iload_n hx hb dJ9_floorMod_7cf53_5 rfl (lv_at hl 2 rfl) ?_
  refine lv_ixor hx hb dJ9_floorMod_7cf53_6 ?_
  refine lv_topi (fun x2 ex2 => ?_)
  have tx2 := ix_sgn (a := p0) (b := p1) (by omega)
  rw [← ex2] at tx2
  refine lv_if_ge (tgt := 18) hx hb dJ9_floorMod_7cf53_7 (by decide) (fun c3 => ?_) (fun c3 => ?_)
  · rw [ki_le] at c3
    refine lv_iload_n hx hb dJ9_floorMod_7cf53_18 rfl (lv_at hl 0 rfl) ?_
    have hP9 := hP.sub (ws' := []) [] rfl
    have hD9 := hD.sub (ws' := []) [] (by decide) rfl
    rw [hQ]
    exact W.iret (v := x1) hx hb hr (fun t ht hW => ⟨⟨x1, (), rfl, ⟨(show 0 ≤ x1.toInt ∧ x1.toInt < p1.toInt from by omega), trivial⟩, (by rw [ht]; exact hP9), hD9⟩, hS.F ht⟩) hS.2.2 dJ9_floorMod_7cf53_19
  · rw [ki_le] at c3
    refine lv_iload_n hx hb dJ9_floorMod_7cf53_10 rfl (lv_at hl 0 rfl) ?_
    refine lv_if_eq (tgt := 18) hx hb dJ9_floorMod_7cf53_11 (by decide) (fun c4 => ?_) (fun c4 => ?_)
    · rw [ki_eq] at c4
      refine lv_iload_n hx hb dJ9_floorMod_7cf53_18 rfl (lv_at hl 0 rfl) ?_
      have hP9 := hP.sub (ws' := []) [] rfl
      have hD9 := hD.sub (ws' := []) [] (by decide) rfl
      rw [hQ]
      exact W.iret (v := x1) hx hb hr (fun t ht hW => ⟨⟨x1, (), rfl, ⟨(show 0 ≤ x1.toInt ∧ x1.toInt < p1.toInt from by omega), trivial⟩, (by rw [ht]; exact hP9), hD9⟩, hS.F ht⟩) hS.2.2 dJ9_floorMod_7cf53_19
    · rw [ki_eq] at c4
      refine lv_iload_n hx hb dJ9_floorMod_7cf53_14 rfl (lv_at hl 0 rfl) ?_
      refine lv_iload_n hx hb dJ9_floorMod_7cf53_15 rfl (lv_at hl 2 rfl) ?_
      refine lv_iadd hx hb dJ9_floorMod_7cf53_16 ?_
      refine lv_topi (fun x5 ex5 => ?_)
      have tx5 := ia_add (a := x1) (b := p1) (by omega) (by omega)
      rw [← ex5] at tx5
      have hP9 := hP.sub (ws' := []) [] rfl
      have hD9 := hD.sub (ws' := []) [] (by decide) rfl
      rw [hQ]
      exact W.iret (v := x5) hx hb hr (fun t ht hW => ⟨⟨x5, (), rfl, ⟨(show 0 ≤ x5.toInt ∧ x5.toInt < p1.toInt from by omega), trivial⟩, (by rw [ht]; exact hP9), hD9⟩, hS.F ht⟩) hS.2.2 dJ9_floorMod_7cf53_17
theorem dJ6_bitCount_0f7a4_0 : decode cJ6_bitCount_0f7a4 0 = .ok (.iload_n 0, 1) := by decide +kernel
theorem dJ6_bitCount_0f7a4_1 : decode cJ6_bitCount_0f7a4 1 = .ok (.iload_n 0, 1) := by decide +kernel
theorem dJ6_bitCount_0f7a4_2 : decode cJ6_bitCount_0f7a4 2 = .ok (.iconst 1, 1) := by decide +kernel
theorem dJ6_bitCount_0f7a4_3 : decode cJ6_bitCount_0f7a4 3 = .ok (.iushr, 1) := by decide +kernel
theorem dJ6_bitCount_0f7a4_4 : decode cJ6_bitCount_0f7a4 4 = .ok (.ldc_w 265, 3) := by decide +kernel
theorem dJ6_bitCount_0f7a4_7 : decode cJ6_bitCount_0f7a4 7 = .ok (.iand, 1) := by decide +kernel
theorem dJ6_bitCount_0f7a4_8 : decode cJ6_bitCount_0f7a4 8 = .ok (.isub, 1) := by decide +kernel
theorem dJ6_bitCount_0f7a4_9 : decode cJ6_bitCount_0f7a4 9 = .ok (.istore_n 0, 1) := by decide +kernel
theorem dJ6_bitCount_0f7a4_10 : decode cJ6_bitCount_0f7a4 10 = .ok (.iload_n 0, 1) := by decide +kernel
theorem dJ6_bitCount_0f7a4_11 : decode cJ6_bitCount_0f7a4 11 = .ok (.ldc_w 266, 3) := by decide +kernel
theorem dJ6_bitCount_0f7a4_14 : decode cJ6_bitCount_0f7a4 14 = .ok (.iand, 1) := by decide +kernel
theorem dJ6_bitCount_0f7a4_15 : decode cJ6_bitCount_0f7a4 15 = .ok (.iload_n 0, 1) := by decide +kernel
theorem dJ6_bitCount_0f7a4_16 : decode cJ6_bitCount_0f7a4 16 = .ok (.iconst 2, 1) := by decide +kernel
theorem dJ6_bitCount_0f7a4_17 : decode cJ6_bitCount_0f7a4 17 = .ok (.iushr, 1) := by decide +kernel
theorem dJ6_bitCount_0f7a4_18 : decode cJ6_bitCount_0f7a4 18 = .ok (.ldc_w 266, 3) := by decide +kernel
theorem dJ6_bitCount_0f7a4_21 : decode cJ6_bitCount_0f7a4 21 = .ok (.iand, 1) := by decide +kernel
theorem dJ6_bitCount_0f7a4_22 : decode cJ6_bitCount_0f7a4 22 = .ok (.iadd, 1) := by decide +kernel
theorem dJ6_bitCount_0f7a4_23 : decode cJ6_bitCount_0f7a4 23 = .ok (.istore_n 0, 1) := by decide +kernel
theorem dJ6_bitCount_0f7a4_24 : decode cJ6_bitCount_0f7a4 24 = .ok (.iload_n 0, 1) := by decide +kernel
theorem dJ6_bitCount_0f7a4_25 : decode cJ6_bitCount_0f7a4 25 = .ok (.iload_n 0, 1) := by decide +kernel
theorem dJ6_bitCount_0f7a4_26 : decode cJ6_bitCount_0f7a4 26 = .ok (.iconst 4, 1) := by decide +kernel
theorem dJ6_bitCount_0f7a4_27 : decode cJ6_bitCount_0f7a4 27 = .ok (.iushr, 1) := by decide +kernel
theorem dJ6_bitCount_0f7a4_28 : decode cJ6_bitCount_0f7a4 28 = .ok (.iadd, 1) := by decide +kernel
theorem dJ6_bitCount_0f7a4_29 : decode cJ6_bitCount_0f7a4 29 = .ok (.ldc_w 267, 3) := by decide +kernel
theorem dJ6_bitCount_0f7a4_32 : decode cJ6_bitCount_0f7a4 32 = .ok (.iand, 1) := by decide +kernel
theorem dJ6_bitCount_0f7a4_33 : decode cJ6_bitCount_0f7a4 33 = .ok (.istore_n 0, 1) := by decide +kernel
theorem dJ6_bitCount_0f7a4_34 : decode cJ6_bitCount_0f7a4 34 = .ok (.iload_n 0, 1) := by decide +kernel
theorem dJ6_bitCount_0f7a4_35 : decode cJ6_bitCount_0f7a4 35 = .ok (.iload_n 0, 1) := by decide +kernel
theorem dJ6_bitCount_0f7a4_36 : decode cJ6_bitCount_0f7a4 36 = .ok (.bipush 8, 2) := by decide +kernel
theorem dJ6_bitCount_0f7a4_38 : decode cJ6_bitCount_0f7a4 38 = .ok (.iushr, 1) := by decide +kernel
theorem dJ6_bitCount_0f7a4_39 : decode cJ6_bitCount_0f7a4 39 = .ok (.iadd, 1) := by decide +kernel
theorem dJ6_bitCount_0f7a4_40 : decode cJ6_bitCount_0f7a4 40 = .ok (.istore_n 0, 1) := by decide +kernel
theorem dJ6_bitCount_0f7a4_41 : decode cJ6_bitCount_0f7a4 41 = .ok (.iload_n 0, 1) := by decide +kernel
theorem dJ6_bitCount_0f7a4_42 : decode cJ6_bitCount_0f7a4 42 = .ok (.iload_n 0, 1) := by decide +kernel
theorem dJ6_bitCount_0f7a4_43 : decode cJ6_bitCount_0f7a4 43 = .ok (.bipush 16, 2) := by decide +kernel
theorem dJ6_bitCount_0f7a4_45 : decode cJ6_bitCount_0f7a4 45 = .ok (.iushr, 1) := by decide +kernel
theorem dJ6_bitCount_0f7a4_46 : decode cJ6_bitCount_0f7a4 46 = .ok (.iadd, 1) := by decide +kernel
theorem dJ6_bitCount_0f7a4_47 : decode cJ6_bitCount_0f7a4 47 = .ok (.istore_n 0, 1) := by decide +kernel
theorem dJ6_bitCount_0f7a4_48 : decode cJ6_bitCount_0f7a4 48 = .ok (.iload_n 0, 1) := by decide +kernel
theorem dJ6_bitCount_0f7a4_49 : decode cJ6_bitCount_0f7a4 49 = .ok (.bipush 63, 2) := by decide +kernel
theorem dJ6_bitCount_0f7a4_51 : decode cJ6_bitCount_0f7a4 51 = .ok (.iand, 1) := by decide +kernel
theorem dJ6_bitCount_0f7a4_52 : decode cJ6_bitCount_0f7a4 52 = .ok (.ireturn, 1) := by decide +kernel
set_option maxHeartbeats 4000000 in
set_option maxRecDepth 100000 in
theorem s_J6_bitCount_0f7a4 (l : Launch) (dC : Nat → ClassId) (dI : Nat → Nat → Nat) (cI cZ cB cJ cM cG : ClassId) (p0 : Int32) (sz : Nat) : Met l yJ6_bitCount_0f7a4 (kw yJ6_bitCount_0f7a4 cJ6_bitCount_0f7a4 1 (some .int)) ({ frames := 0, cells := 0, slots := 0, locals := 0 } : Room) (va_Pc [.int p0] (kPre dC dI [(cI, .int), (cZ, .boolean), (cB, .byte), (cJ, .long), (cM, .object RX2), (cG, .array .int)] [] sz)) (va_Qi (fun (r : Int32) (u9 : Unit) => ((0 : Int) ≤ r.toInt ∧ r.toInt ≤ 63) ∧ True) (fun u9 t => va_P (dC, dI) vwCl [] t.heap ∧ va_D (va_A [] sz) []) (va_A [] sz)) 0 0 (va_A [] sz) := by
  refine kEnter (by decide) (Nat.le_of_ble_eq_true rfl) ?_
  intro p e s m below meth c ls hx hb hr hml hown hlocks hin hwd hsz hP hK hD hl
  subst hsz
  generalize hAe : va_A [] s.heap.size = A at hD ⊢
  have hA : ∀ q : Nat, s.heap.size ≤ q → A q := fun q h => by rw [← hAe]; exact Or.inr h
  have hS : va_S A s.heap s.heap [] := va_S.rf
  have hl : lv_has ls 1 [(0, .int p0)] := hl
  obtain ⟨Q, hQ⟩ : ∃ Q, Q = MQ below (va_Qi (fun (r : Int32) (u9 : Unit) => ((0 : Int) ≤ r.toInt ∧ r.toInt ≤ 63) ∧ True) (fun u9 t => va_P (dC, dI) vwCl [] t.heap ∧ va_D A []) A) ([.int p0] : List Value).toArray s 0 0 A := ⟨_, rfl⟩
  rw [← hQ]
  have k63 : (63 : Int32).toInt = 63 := by decide
  have k252645135 : (252645135 : Int32).toInt = 252645135 := by decide
  have k858993459 : (858993459 : Int32).toInt = 858993459 := by decide
  have k1431655765 : (1431655765 : Int32).toInt = 1431655765 := by decide
  refine lv_iload_n hx hb dJ6_bitCount_0f7a4_0 rfl (lv_at hl 0 rfl) ?_
  refine lv_iload_n hx hb dJ6_bitCount_0f7a4_1 rfl (lv_at hl 0 rfl) ?_
  refine lv_iconst (v := 1) hx hb dJ6_bitCount_0f7a4_2 (by decide) ?_
  refine lv_iushr hx hb dJ6_bitCount_0f7a4_3 rfl ?_
  refine lv_topi (fun x1 ex1 => ?_)
  refine lv_ldcw (v := 1431655765) hx hb hown (hwd _ kr42_3) dJ6_bitCount_0f7a4_4 ?_
  refine lv_iand hx hb dJ6_bitCount_0f7a4_7 ?_
  refine lv_topi (fun x2 ex2 => ?_)
  have tx2 := ia_and (a := x1) (m := (1431655765 : Int32)) (by decide)
  rw [← ex2] at tx2
  refine lv_isub hx hb dJ6_bitCount_0f7a4_8 ?_
  refine lv_topi (fun x3 ex3 => ?_)
  refine lv_istore_n (lv' := [(0, .int x3)]) hx hb dJ6_bitCount_0f7a4_9 rfl hl (by decide) rfl (fun ls hl => ?_)
  refine lv_iload_n hx hb dJ6_bitCount_0f7a4_10 rfl (lv_at hl 0 rfl) ?_
  refine lv_ldcw (v := 858993459) hx hb hown (hwd _ kr42_4) dJ6_bitCount_0f7a4_11 ?_
  refine lv_iand hx hb dJ6_bitCount_0f7a4_14 ?_
  refine lv_topi (fun x4 ex4 => ?_)
  have tx4 := ia_and (a := x3) (m := (858993459 : Int32)) (by decide)
  rw [← ex4] at tx4
  refine lv_iload_n hx hb dJ6_bitCount_0f7a4_15 rfl (lv_at hl 0 rfl) ?_
  refine lv_iconst (v := 2) hx hb dJ6_bitCount_0f7a4_16 (by decide) ?_
  refine lv_iushr hx hb dJ6_bitCount_0f7a4_17 rfl ?_
  refine lv_topi (fun x5 ex5 => ?_)
  refine lv_ldcw (v := 858993459) hx hb hown (hwd _ kr42_4) dJ6_bitCount_0f7a4_18 ?_
  refine lv_iand hx hb dJ6_bitCount_0f7a4_21 ?_
  refine lv_topi (fun x6 ex6 => ?_)
  have tx6 := ia_and (a := x5) (m := (858993459 : Int32)) (by decide)
  rw [← ex6] at tx6
  refine lv_iadd hx hb dJ6_bitCount_0f7a4_22 ?_
  refine lv_topi (fun x7 ex7 => ?_)
  have tx7 := ia_add (a := x4) (b := x6) (by omega) (by omega)
  rw [← ex7] at tx7
  refine lv_istore_n (lv' := [(0, .int x7)]) hx hb dJ6_bitCount_0f7a4_23 rfl hl (by decide) rfl (fun ls hl => ?_)
  refine lv_iload_n hx hb dJ6_bitCount_0f7a4_24 rfl (lv_at hl 0 rfl) ?_
  refine lv_iload_n hx hb dJ6_bitCount_0f7a4_25 rfl (lv_at hl 0 rfl) ?_
  refine lv_iconst (v := 4) hx hb dJ6_bitCount_0f7a4_26 (by decide) ?_
  refine lv_iushr hx hb dJ6_bitCount_0f7a4_27 rfl ?_
  refine lv_topi (fun x8 ex8 => ?_)
  refine lv_iadd hx hb dJ6_bitCount_0f7a4_28 ?_
  refine lv_topi (fun x9 ex9 => ?_)
  refine lv_ldcw (v := 252645135) hx hb hown (hwd _ kr42_5) dJ6_bitCount_0f7a4_29 ?_
  refine lv_iand hx hb dJ6_bitCount_0f7a4_32 ?_
  refine lv_topi (fun x10 ex10 => ?_)
  have tx10 := ia_and (a := x9) (m := (252645135 : Int32)) (by decide)
  rw [← ex10] at tx10
  refine lv_istore_n (lv' := [(0, .int x10)]) hx hb dJ6_bitCount_0f7a4_33 rfl hl (by decide) rfl (fun ls hl => ?_)
  refine lv_iload_n hx hb dJ6_bitCount_0f7a4_34 rfl (lv_at hl 0 rfl) ?_
  refine lv_iload_n hx hb dJ6_bitCount_0f7a4_35 rfl (lv_at hl 0 rfl) ?_
  refine lv_bipush (v := 8) hx hb dJ6_bitCount_0f7a4_36 (by decide) ?_
  refine lv_iushr hx hb dJ6_bitCount_0f7a4_38 rfl ?_
  refine lv_topi (fun x11 ex11 => ?_)
  refine lv_iadd hx hb dJ6_bitCount_0f7a4_39 ?_
  refine lv_topi (fun x12 ex12 => ?_)
  refine lv_istore_n (lv' := [(0, .int x12)]) hx hb dJ6_bitCount_0f7a4_40 rfl hl (by decide) rfl (fun ls hl => ?_)
  refine lv_iload_n hx hb dJ6_bitCount_0f7a4_41 rfl (lv_at hl 0 rfl) ?_
  refine lv_iload_n hx hb dJ6_bitCount_0f7a4_42 rfl (lv_at hl 0 rfl) ?_
  refine lv_bipush (v := 16) hx hb dJ6_bitCount_0f7a4_43 (by decide) ?_
  refine lv_iushr hx hb dJ6_bitCount_0f7a4_45 rfl ?_
  refine lv_topi (fun x13 ex13 => ?_)
  refine lv_iadd hx hb dJ6_bitCount_0f7a4_46 ?_
  refine lv_topi (fun x14 ex14 => ?_)
  refine lv_istore_n (lv' := [(0, .int x14)]) hx hb dJ6_bitCount_0f7a4_47 rfl hl (by decide) rfl (fun ls hl => ?_)
  refine lv_iload_n hx hb dJ6_bitCount_0f7a4_48 rfl (lv_at hl 0 rfl) ?_
  refine lv_bipush (v := 63) hx hb dJ6_bitCount_0f7a4_49 (by decide) ?_
  refine lv_iand hx hb dJ6_bitCount_0f7a4_51 ?_
  refine lv_topi (fun x15 ex15 => ?_)
  have tx15 := ia_and (a := x14) (m := (63 : Int32)) (by decide)
  rw [← ex15] at tx15
  have hP9 := hP.sub (ws' := []) [] rfl
  have hD9 := hD.sub (ws' := []) [] (by decide) rfl
  rw [hQ]
  exact W.iret (v := x15) hx hb hr (fun t ht hW => ⟨⟨x15, (), rfl, ⟨(show (0 : Int) ≤ x15.toInt ∧ x15.toInt ≤ 63 from ⟨by omega, by omega⟩), trivial⟩, (by rw [ht]; exact hP9), hD9⟩, hS.F ht⟩) hS.2.2 dJ6_bitCount_0f7a4_52
theorem dJ0_coder_7d493_0 : decode cJ0_coder_7d493 0 = .ok (.getstatic 38, 3) := by decide +kernel
theorem dJ0_coder_7d493_3 : decode cJ0_coder_7d493 3 = .ok (.ifCond .eq 10, 3) := by decide +kernel
theorem dJ0_coder_7d493_6 : decode cJ0_coder_7d493 6 = .ok (.aload_n 0, 1) := by decide +kernel
theorem dJ0_coder_7d493_7 : decode cJ0_coder_7d493 7 = .ok (.getfield 15, 3) := by decide +kernel
theorem dJ0_coder_7d493_10 : decode cJ0_coder_7d493 10 = .ok (.goto 4, 3) := by decide +kernel
theorem dJ0_coder_7d493_14 : decode cJ0_coder_7d493 14 = .ok (.ireturn, 1) := by decide +kernel
set_option maxHeartbeats 4000000 in
set_option maxRecDepth 100000 in
theorem s_J0_coder_7d493 (l : Launch) (dC : Nat → ClassId) (dI : Nat → Nat → Nat) (cI cZ cB cJ cM cG : ClassId)  (sa sav sn : Nat) (sf : Nat → Int32) (sz : Nat) : Met l yJ0_coder_7d493 (kw yJ0_coder_7d493 cJ0_coder_7d493 1 (some .byte)) ({ frames := 0, cells := 0, slots := 0, locals := 0 } : Room) (va_Pc [.ref sa] (kPreX dC dI [(cI, .int), (cZ, .boolean), (cB, .byte), (cJ, .long), (cM, .object RX2), (cG, .array .int)] [] sz (NS sa sav sn sf))) (va_Qi (fun (r : Int32) (u9 : Unit) => ((0 : Int) ≤ r.toInt ∧ r.toInt ≤ 0) ∧ True) (fun u9 t => va_P (dC, dI) vwCl [] t.heap ∧ va_D (va_A [] sz) []) (va_A [] sz)) 0 0 (va_A [] sz) := by
  refine kEnterX (by decide) (Nat.le_of_ble_eq_true rfl) ?_
  intro p e s m below meth c ls hx hb hr hml hown hlocks hin hwd hsz hP hK hD hN hl
  subst hsz
  generalize hAe : va_A [] s.heap.size = A at hD hN ⊢
  have hA : ∀ q : Nat, s.heap.size ≤ q → A q := fun q h => by rw [← hAe]; exact Or.inr h
  have hS : va_S A s.heap s.heap [] := va_S.rf
  have hl : lv_has ls 1 [(0, .ref sa)] := hl
  obtain ⟨Q, hQ⟩ : ∃ Q, Q = MQ below (va_Qi (fun (r : Int32) (u9 : Unit) => ((0 : Int) ≤ r.toInt ∧ r.toInt ≤ 0) ∧ True) (fun u9 t => va_P (dC, dI) vwCl [] t.heap ∧ va_D A []) A) ([.ref sa] : List Value).toArray s 0 0 A := ⟨_, rfl⟩
  rw [← hQ]
  have k0 : (0 : Int32).toInt = 0 := by decide
  refine va_gets hx hb hN.1.1 hS hown (hwd _ kr20_6) (fun _ h9 => h9) dJ0_coder_7d493_0 ?_
  refine lv_if_eq (tgt := 13) hx hb dJ0_coder_7d493_3 (by decide) (fun c1 => absurd c1 (by decide)) (fun c1 => ?_)
  refine lv_aload_n hx hb dJ0_coder_7d493_6 rfl (lv_at hl 0 rfl) ?_
  refine vk_getf hx hb hN.2.2.2.1 hS hown (hwd _ kr68_23) (fun _ h9 => h9) dJ0_coder_7d493_7 ?_
  refine lv_goto (tgt := 14) hx hb dJ0_coder_7d493_10 (by decide) ?_
  have hP9 := hP.sub (ws' := []) [] rfl
  have hD9 := hD.sub (ws' := []) [] (by decide) rfl
  rw [hQ]
  exact W.zret (v := 0) hx hb hr (by decide) (fun t ht hW => ⟨⟨0, (), rfl, ⟨(show (0 : Int) ≤ (0 : Int32).toInt ∧ (0 : Int32).toInt ≤ 0 from ⟨by omega, by omega⟩), trivial⟩, (by rw [ht]; exact hP9), hD9⟩, hS.F ht⟩) hS.2.2 dJ0_coder_7d493_14
theorem dJ0_isLatin1_aae02_0 : decode cJ0_isLatin1_aae02 0 = .ok (.getstatic 38, 3) := by decide +kernel
theorem dJ0_isLatin1_aae02_3 : decode cJ0_isLatin1_aae02 3 = .ok (.ifCond .eq 14, 3) := by decide +kernel
theorem dJ0_isLatin1_aae02_6 : decode cJ0_isLatin1_aae02 6 = .ok (.aload_n 0, 1) := by decide +kernel
theorem dJ0_isLatin1_aae02_7 : decode cJ0_isLatin1_aae02 7 = .ok (.getfield 15, 3) := by decide +kernel
theorem dJ0_isLatin1_aae02_10 : decode cJ0_isLatin1_aae02 10 = .ok (.ifCond .ne 7, 3) := by decide +kernel
theorem dJ0_isLatin1_aae02_13 : decode cJ0_isLatin1_aae02 13 = .ok (.iconst 1, 1) := by decide +kernel
theorem dJ0_isLatin1_aae02_14 : decode cJ0_isLatin1_aae02 14 = .ok (.goto 4, 3) := by decide +kernel
theorem dJ0_isLatin1_aae02_18 : decode cJ0_isLatin1_aae02 18 = .ok (.ireturn, 1) := by decide +kernel
set_option maxHeartbeats 4000000 in
set_option maxRecDepth 100000 in
theorem s_J0_isLatin1_aae02 (l : Launch) (dC : Nat → ClassId) (dI : Nat → Nat → Nat) (cI cZ cB cJ cM cG : ClassId)  (sa sav sn : Nat) (sf : Nat → Int32) (sz : Nat) : Met l yJ0_isLatin1_aae02 (kw yJ0_isLatin1_aae02 cJ0_isLatin1_aae02 1 (some .boolean)) ({ frames := 0, cells := 0, slots := 0, locals := 0 } : Room) (va_Pc [.ref sa] (kPreX dC dI [(cI, .int), (cZ, .boolean), (cB, .byte), (cJ, .long), (cM, .object RX2), (cG, .array .int)] [] sz (NS sa sav sn sf))) (va_Qi (fun (r : Int32) (u9 : Unit) => ((1 : Int) ≤ r.toInt ∧ r.toInt ≤ 1) ∧ True) (fun u9 t => va_P (dC, dI) vwCl [] t.heap ∧ va_D (va_A [] sz) []) (va_A [] sz)) 0 0 (va_A [] sz) := by
  refine kEnterX (by decide) (Nat.le_of_ble_eq_true rfl) ?_
  intro p e s m below meth c ls hx hb hr hml hown hlocks hin hwd hsz hP hK hD hN hl
  subst hsz
  generalize hAe : va_A [] s.heap.size = A at hD hN ⊢
  have hA : ∀ q : Nat, s.heap.size ≤ q → A q := fun q h => by rw [← hAe]; exact Or.inr h
  have hS : va_S A s.heap s.heap [] := va_S.rf
  have hl : lv_has ls 1 [(0, .ref sa)] := hl
  obtain ⟨Q, hQ⟩ : ∃ Q, Q = MQ below (va_Qi (fun (r : Int32) (u9 : Unit) => ((1 : Int) ≤ r.toInt ∧ r.toInt ≤ 1) ∧ True) (fun u9 t => va_P (dC, dI) vwCl [] t.heap ∧ va_D A []) A) ([.ref sa] : List Value).toArray s 0 0 A := ⟨_, rfl⟩
  rw [← hQ]
  have k1 : (1 : Int32).toInt = 1 := by decide
  refine va_gets hx hb hN.1.1 hS hown (hwd _ kr20_6) (fun _ h9 => h9) dJ0_isLatin1_aae02_0 ?_
  refine lv_if_eq (tgt := 17) hx hb dJ0_isLatin1_aae02_3 (by decide) (fun c1 => absurd c1 (by decide)) (fun c1 => ?_)
  refine lv_aload_n hx hb dJ0_isLatin1_aae02_6 rfl (lv_at hl 0 rfl) ?_
  refine vk_getf hx hb hN.2.2.2.1 hS hown (hwd _ kr68_23) (fun _ h9 => h9) dJ0_isLatin1_aae02_7 ?_
  refine lv_if_ne (tgt := 17) hx hb dJ0_isLatin1_aae02_10 (by decide) (fun c2 => absurd c2 (by decide)) (fun c2 => ?_)
  refine lv_iconst (v := 1) hx hb dJ0_isLatin1_aae02_13 (by decide) ?_
  refine lv_goto (tgt := 18) hx hb dJ0_isLatin1_aae02_14 (by decide) ?_
  have hP9 := hP.sub (ws' := []) [] rfl
  have hD9 := hD.sub (ws' := []) [] (by decide) rfl
  rw [hQ]
  exact W.zret (v := 1) hx hb hr (by decide) (fun t ht hW => ⟨⟨1, (), rfl, ⟨(show (1 : Int) ≤ (1 : Int32).toInt ∧ (1 : Int32).toInt ≤ 1 from ⟨by omega, by omega⟩), trivial⟩, (by rw [ht]; exact hP9), hD9⟩, hS.F ht⟩) hS.2.2 dJ0_isLatin1_aae02_18
theorem dJ0_length_8abf5_0 : decode cJ0_length_8abf5 0 = .ok (.aload_n 0, 1) := by decide +kernel
theorem dJ0_length_8abf5_1 : decode cJ0_length_8abf5 1 = .ok (.getfield 9, 3) := by decide +kernel
theorem dJ0_length_8abf5_4 : decode cJ0_length_8abf5 4 = .ok (.arraylength, 1) := by decide +kernel
theorem dJ0_length_8abf5_5 : decode cJ0_length_8abf5 5 = .ok (.aload_n 0, 1) := by decide +kernel
theorem dJ0_length_8abf5_6 : decode cJ0_length_8abf5 6 = .ok (.invokevirtual 335, 3) := by decide +kernel
theorem dJ0_length_8abf5_9 : decode cJ0_length_8abf5 9 = .ok (.ishr, 1) := by decide +kernel
theorem dJ0_length_8abf5_10 : decode cJ0_length_8abf5 10 = .ok (.ireturn, 1) := by decide +kernel
set_option maxHeartbeats 4000000 in
set_option maxRecDepth 100000 in
theorem s_J0_length_8abf5 (l : Launch) (dC : Nat → ClassId) (dI : Nat → Nat → Nat) (cI cZ cB cJ cM cG : ClassId)  (sa sav sn : Nat) (sf : Nat → Int32) (sz : Nat) : Met l yJ0_length_8abf5 (kw yJ0_length_8abf5 cJ0_length_8abf5 1 (some .int)) ({ frames := 1, cells := 0, slots := 0, locals := 20 } : Room) (va_Pc [.ref sa] (kPreX dC dI [(cI, .int), (cZ, .boolean), (cB, .byte), (cJ, .long), (cM, .object RX2), (cG, .array .int)] [] sz (NS sa sav sn sf))) (va_Qi (fun (r : Int32) (u9 : Unit) => ((0 : Int) ≤ r.toInt ∧ r.toInt ≤ 10) ∧ (r.toInt = (sn : Int)) ∧ True) (fun u9 t => va_P (dC, dI) vwCl [] t.heap ∧ va_D (va_A [] sz) []) (va_A [] sz)) 0 0 (va_A [] sz) := by
  refine kEnterX (by decide) (Nat.le_of_ble_eq_true rfl) ?_
  intro p e s m below meth c ls hx hb hr hml hown hlocks hin hwd hsz hP hK hD hN hl
  subst hsz
  generalize hAe : va_A [] s.heap.size = A at hD hN ⊢
  have hA : ∀ q : Nat, s.heap.size ≤ q → A q := fun q h => by rw [← hAe]; exact Or.inr h
  have hS : va_S A s.heap s.heap [] := va_S.rf
  have hl : lv_has ls 1 [(0, .ref sa)] := hl
  obtain ⟨Q, hQ⟩ : ∃ Q, Q = MQ below (va_Qi (fun (r : Int32) (u9 : Unit) => ((0 : Int) ≤ r.toInt ∧ r.toInt ≤ 10) ∧ (r.toInt = (sn : Int)) ∧ True) (fun u9 t => va_P (dC, dI) vwCl [] t.heap ∧ va_D A []) A) ([.ref sa] : List Value).toArray s 0 0 A := ⟨_, rfl⟩
  rw [← hQ]
  have k0 : (0 : Int32).toInt = 0 := by decide
  refine lv_aload_n hx hb dJ0_length_8abf5_0 rfl (lv_at hl 0 rfl) ?_
  refine vk_getf hx hb hN.2.2.2.2.1 hS hown (hwd _ kr68_22) (fun _ h9 => h9) dJ0_length_8abf5_1 ?_
  refine va_tlen hx hb hN.2.2.2.2.2 hS rfl dJ0_length_8abf5_4 ?_
  refine lv_topi (fun x1 ex1 => ?_)
  have tx1 := of_len hN.2.1
  rw [← ex1] at tx1
  have ux1 := hN.2.1
  refine lv_aload_n hx hb dJ0_length_8abf5_5 rfl (lv_at hl 0 rfl) ?_
  have hPc := hP.sub (ws' := []) [] rfl
  have hDc := hD.sub (ws' := []) [] (by decide) rfl
  have hFc := va_free (wc := []) hD hS hA [] rfl
  refine va_calli (va_runV (As := []) (rest := [.int x1]) ⟨hx, hb, hml, hown, hwd⟩ (s_J0_coder_7d493 l dC dI cI cZ cB cJ cM cG sa sav sn sf s.heap.size) (cwV 0 hwd (gV kr20_2 kr20_3 kr20_4 kr6_0 kr20_5) rfl rfl rfl (by decide +kernel) ⟨Nat.le_of_ble_eq_true rfl, Nat.le_of_ble_eq_true rfl⟩) (kPreVS hPc hK hDc (NS_st _ _ _ _) hN hS hFc hN.2.2.1) rfl rfl hl.1 rfl (lv_room (Nat.le_of_ble_eq_true rfl)) dJ0_length_8abf5_6 ⟨Nat.le_of_ble_eq_true rfl, Nat.le_of_ble_eq_true rfl⟩) hS (fun q _ h => hFc q h) hFc (fun r2 u3 t H1 locs ht9 hvm hw hB hz1 hk1 hS => ?_)
  obtain ⟨hw4, -⟩ := hw
  replace hw4 : (0 : Int) ≤ r2.toInt ∧ r2.toInt ≤ 0 := hw4
  obtain ⟨hP1, hD1⟩ := hB
  rw [ht9] at hP1
  obtain ⟨hP, hD⟩ := va_join (wr := []) (w1 := []) hP hD [] [] rfl rfl (by decide) (by decide) hk1 hFc hP1 hD1
  generalize H1 = H at hP hS ⊢
  replace hP : va_P (dC, dI) vwCl [] H := hP
  replace hD : va_D A [] := hD
  have er2 : r2 = 0 := (ki_eq _ _).mpr (by omega)
  subst er2
  refine lv_ishr hx hb dJ0_length_8abf5_9 ?_
  refine lv_topi (nm_r (e' := x1) sr_0 ?_)
  have hP9 := hP.sub (ws' := []) [] rfl
  have hD9 := hD.sub (ws' := []) [] (by decide) rfl
  rw [hQ]
  exact W.iret (v := x1) hx hb hr (fun t ht hW => ⟨⟨x1, (), rfl, ⟨(show (0 : Int) ≤ x1.toInt ∧ x1.toInt ≤ 10 from ⟨by omega, by omega⟩), (show x1.toInt = (sn : Int) from by omega), trivial⟩, (by rw [ht]; exact hP9), hD9⟩, hS.F ht⟩) hS.2.2 dJ0_length_8abf5_10
theorem dJ3_checkIndex_8e157_0 : decode cJ3_checkIndex_8e157 0 = .ok (.iload_n 0, 1) := by decide +kernel
theorem dJ3_checkIndex_8e157_1 : decode cJ3_checkIndex_8e157 1 = .ok (.ifCond .lt 8, 3) := by decide +kernel
theorem dJ3_checkIndex_8e157_4 : decode cJ3_checkIndex_8e157 4 = .ok (.iload_n 0, 1) := by decide +kernel
theorem dJ3_checkIndex_8e157_5 : decode cJ3_checkIndex_8e157 5 = .ok (.iload_n 1, 1) := by decide +kernel
theorem dJ3_checkIndex_8e157_6 : decode cJ3_checkIndex_8e157 6 = .ok (.if_icmp .lt 10, 3) := by decide +kernel
theorem dJ3_checkIndex_8e157_16 : decode cJ3_checkIndex_8e157 16 = .ok (.iload_n 0, 1) := by decide +kernel
theorem dJ3_checkIndex_8e157_17 : decode cJ3_checkIndex_8e157 17 = .ok (.ireturn, 1) := by decide +kernel
set_option maxHeartbeats 4000000 in
set_option maxRecDepth 100000 in
theorem s_J3_chk0 (l : Launch) (dC : Nat → ClassId) (dI : Nat → Nat → Nat) (cI cZ cB cJ cM cG : ClassId) (p0 p1 : Int32) (sz : Nat) (p_0 : 0 ≤ p0.toInt ∧ p0.toInt < p1.toInt) : Met l yJ3_checkIndex_8e157 (kw yJ3_checkIndex_8e157 cJ3_checkIndex_8e157 3 (some .int)) ({ frames := 0, cells := 0, slots := 0, locals := 0 } : Room) (va_Pc [.int p0, .int p1, .null] (kPre dC dI [(cI, .int), (cZ, .boolean), (cB, .byte), (cJ, .long), (cM, .object RX2), (cG, .array .int)] [] sz)) (va_Qi (fun (r : Int32) (u9 : Unit) => ((0 : Int) ≤ r.toInt ∧ r.toInt ≤ 2147483647) ∧ True) (fun u9 t => va_P (dC, dI) vwCl [] t.heap ∧ va_D (va_A [] sz) []) (va_A [] sz)) 0 0 (va_A [] sz) := by
  refine kEnter (by decide) (Nat.le_of_ble_eq_true rfl) ?_
  intro p e s m below meth c ls hx hb hr hml hown hlocks hin hwd hsz hP hK hD hl
  subst hsz
  generalize hAe : va_A [] s.heap.size = A at hD ⊢
  have hA : ∀ q : Nat, s.heap.size ≤ q → A q := fun q h => by rw [← hAe]; exact Or.inr h
  have hS : va_S A s.heap s.heap [] := va_S.rf
  have hl : lv_has ls 3 [(0, .int p0), (1, .int p1), (2, .null)] := hl
  obtain ⟨Q, hQ⟩ : ∃ Q, Q = MQ below (va_Qi (fun (r : Int32) (u9 : Unit) => ((0 : Int) ≤ r.toInt ∧ r.toInt ≤ 2147483647) ∧ True) (fun u9 t => va_P (dC, dI) vwCl [] t.heap ∧ va_D A []) A) ([.int p0, .int p1, .null] : List Value).toArray s 0 0 A := ⟨_, rfl⟩
  rw [← hQ]
  have k0 : (0 : Int32).toInt = 0 := by decide
  refine lv_iload_n hx hb dJ3_checkIndex_8e157_0 rfl (lv_at hl 0 rfl) ?_
  refine lv_if_lt (tgt := 9) hx hb dJ3_checkIndex_8e157_1 (by decide) (fun c1 => ?_) (fun c1 => ?_)
  · rw [ki_lt] at c1
    exfalso
    omega
  · rw [ki_lt] at c1
    refine lv_iload_n hx hb dJ3_checkIndex_8e157_4 rfl (lv_at hl 0 rfl) ?_
    refine lv_iload_n hx hb dJ3_checkIndex_8e157_5 rfl (lv_at hl 1 rfl) ?_
    refine lv_icmp_lt (tgt := 16) hx hb dJ3_checkIndex_8e157_6 (by decide) (fun c2 => ?_) (fun c2 => ?_)
    · rw [ki_lt] at c2
      refine lv_iload_n hx hb dJ3_checkIndex_8e157_16 rfl (lv_at hl 0 rfl) ?_
      have hP9 := hP.sub (ws' := []) [] rfl
      have hD9 := hD.sub (ws' := []) [] (by decide) rfl
      rw [hQ]
      exact W.iret (v := p0) hx hb hr (fun t ht hW => ⟨⟨p0, (), rfl, ⟨(show (0 : Int) ≤ p0.toInt ∧ p0.toInt ≤ 2147483647 from ⟨by omega, i32_hi⟩), trivial⟩, (by rw [ht]; exact hP9), hD9⟩, hS.F ht⟩) hS.2.2 dJ3_checkIndex_8e157_17
    · rw [ki_lt] at c2
      exfalso
      omega
set_option maxHeartbeats 4000000 in
set_option maxRecDepth 100000 in
theorem s_J3_chk1 (l : Launch) (dC : Nat → ClassId) (dI : Nat → Nat → Nat) (cI cZ cB cJ cM cG : ClassId) (t0 : Nat) (p0 p1 : Int32) (sz : Nat) (p_0 : 0 ≤ p0.toInt ∧ p0.toInt < p1.toInt) : Met l yJ3_checkIndex_8e157 (kw yJ3_checkIndex_8e157 cJ3_checkIndex_8e157 3 (some .int)) ({ frames := 0, cells := 0, slots := 0, locals := 0 } : Room) (va_Pc [.int p0, .int p1, .ref t0] (kPre dC dI [(cI, .int), (cZ, .boolean), (cB, .byte), (cJ, .long), (cM, .object RX2), (cG, .array .int)] [] sz)) (va_Qi (fun (r : Int32) (u9 : Unit) => ((0 : Int) ≤ r.toInt ∧ r.toInt ≤ 2147483647) ∧ True) (fun u9 t => va_P (dC, dI) vwCl [] t.heap ∧ va_D (va_A [] sz) []) (va_A [] sz)) 0 0 (va_A [] sz) := by
  refine kEnter (by decide) (Nat.le_of_ble_eq_true rfl) ?_
  intro p e s m below meth c ls hx hb hr hml hown hlocks hin hwd hsz hP hK hD hl
  subst hsz
  generalize hAe : va_A [] s.heap.size = A at hD ⊢
  have hA : ∀ q : Nat, s.heap.size ≤ q → A q := fun q h => by rw [← hAe]; exact Or.inr h
  have hS : va_S A s.heap s.heap [] := va_S.rf
  have hl : lv_has ls 3 [(0, .int p0), (1, .int p1), (2, .ref t0)] := hl
  obtain ⟨Q, hQ⟩ : ∃ Q, Q = MQ below (va_Qi (fun (r : Int32) (u9 : Unit) => ((0 : Int) ≤ r.toInt ∧ r.toInt ≤ 2147483647) ∧ True) (fun u9 t => va_P (dC, dI) vwCl [] t.heap ∧ va_D A []) A) ([.int p0, .int p1, .ref t0] : List Value).toArray s 0 0 A := ⟨_, rfl⟩
  rw [← hQ]
  have k0 : (0 : Int32).toInt = 0 := by decide
  refine lv_iload_n hx hb dJ3_checkIndex_8e157_0 rfl (lv_at hl 0 rfl) ?_
  refine lv_if_lt (tgt := 9) hx hb dJ3_checkIndex_8e157_1 (by decide) (fun c1 => ?_) (fun c1 => ?_)
  · rw [ki_lt] at c1
    exfalso
    omega
  · rw [ki_lt] at c1
    refine lv_iload_n hx hb dJ3_checkIndex_8e157_4 rfl (lv_at hl 0 rfl) ?_
    refine lv_iload_n hx hb dJ3_checkIndex_8e157_5 rfl (lv_at hl 1 rfl) ?_
    refine lv_icmp_lt (tgt := 16) hx hb dJ3_checkIndex_8e157_6 (by decide) (fun c2 => ?_) (fun c2 => ?_)
    · rw [ki_lt] at c2
      refine lv_iload_n hx hb dJ3_checkIndex_8e157_16 rfl (lv_at hl 0 rfl) ?_
      have hP9 := hP.sub (ws' := []) [] rfl
      have hD9 := hD.sub (ws' := []) [] (by decide) rfl
      rw [hQ]
      exact W.iret (v := p0) hx hb hr (fun t ht hW => ⟨⟨p0, (), rfl, ⟨(show (0 : Int) ≤ p0.toInt ∧ p0.toInt ≤ 2147483647 from ⟨by omega, i32_hi⟩), trivial⟩, (by rw [ht]; exact hP9), hD9⟩, hS.F ht⟩) hS.2.2 dJ3_checkIndex_8e157_17
    · rw [ki_lt] at c2
      exfalso
      omega
theorem dJ0_checkIndex_df160_0 : decode cJ0_checkIndex_df160 0 = .ok (.iload_n 0, 1) := by decide +kernel
theorem dJ0_checkIndex_df160_1 : decode cJ0_checkIndex_df160 1 = .ok (.iload_n 1, 1) := by decide +kernel
theorem dJ0_checkIndex_df160_2 : decode cJ0_checkIndex_df160 2 = .ok (.getstatic 1053, 3) := by decide +kernel
theorem dJ0_checkIndex_df160_5 : decode cJ0_checkIndex_df160 5 = .ok (.invokestatic 1059, 3) := by decide +kernel
theorem dJ0_checkIndex_df160_8 : decode cJ0_checkIndex_df160 8 = .ok (.pop, 1) := by decide +kernel
theorem dJ0_checkIndex_df160_9 : decode cJ0_checkIndex_df160 9 = .ok (.return_, 1) := by decide +kernel
set_option maxHeartbeats 4000000 in
set_option maxRecDepth 100000 in
theorem s_J0_checkIndex_df160 (l : Launch) (dC : Nat → ClassId) (dI : Nat → Nat → Nat) (cI cZ cB cJ cM cG : ClassId) (p0 p1 : Int32) (sa sav sn : Nat) (sf : Nat → Int32) (sz : Nat) (p_0 : 0 ≤ p0.toInt ∧ p0.toInt < p1.toInt) : Met l yJ0_checkIndex_df160 (kw yJ0_checkIndex_df160 cJ0_checkIndex_df160 2 none) ({ frames := 1, cells := 0, slots := 0, locals := 22 } : Room) (va_Pc [.int p0, .int p1] (kPreX dC dI [(cI, .int), (cZ, .boolean), (cB, .byte), (cJ, .long), (cM, .object RX2), (cG, .array .int)] [] sz (NS sa sav sn sf))) (va_Qv (fun (u9 : Unit) => True) (fun u9 t => va_P (dC, dI) vwCl [] t.heap ∧ va_D (va_A [] sz) []) (va_A [] sz)) 0 0 (va_A [] sz) := by
  refine kEnterX (by decide) (Nat.le_of_ble_eq_true rfl) ?_
  intro p e s m below meth c ls hx hb hr hml hown hlocks hin hwd hsz hP hK hD hN hl
  subst hsz
  generalize hAe : va_A [] s.heap.size = A at hD hN ⊢
  have hA : ∀ q : Nat, s.heap.size ≤ q → A q := fun q h => by rw [← hAe]; exact Or.inr h
  have hS : va_S A s.heap s.heap [] := va_S.rf
  have hl : lv_has ls 2 [(0, .int p0), (1, .int p1)] := hl
  obtain ⟨Q, hQ⟩ : ∃ Q, Q = MQ below (va_Qv (fun (u9 : Unit) => True) (fun u9 t => va_P (dC, dI) vwCl [] t.heap ∧ va_D A []) A) ([.int p0, .int p1] : List Value).toArray s 0 0 A := ⟨_, rfl⟩
  rw [← hQ]
  refine lv_iload_n hx hb dJ0_checkIndex_df160_0 rfl (lv_at hl 0 rfl) ?_
  refine lv_iload_n hx hb dJ0_checkIndex_df160_1 rfl (lv_at hl 1 rfl) ?_
  rcases hN.1.2 with hz | ⟨t9, hz⟩
  · refine va_gets hx hb hz hS hown (hwd _ kr20_21) (fun _ h9 => h9) dJ0_checkIndex_df160_2 ?_
    have hPc := hP.sub (ws' := []) [] rfl
    have hDc := hD.sub (ws' := []) [] (by decide) rfl
    have hFc := va_free (wc := []) hD hS hA [] rfl
    refine va_calli (va_runS (As := [.int p0, .int p1, .null]) (rest := []) ⟨hx, hb, hml, hown, hwd⟩ (s_J3_chk0 l dC dI cI cZ cB cJ cM cG p0 p1 s.heap.size (by omega)) (va_cwS 3 hwd (gSJ kr20_22 kr20_23 kr6_2 kr21_0) rfl rfl rfl (by decide +kernel) ⟨Nat.le_of_ble_eq_true rfl, Nat.le_of_ble_eq_true rfl⟩) (kPreS hPc hK hDc) rfl rfl hl.1 rfl (lv_room (Nat.le_of_ble_eq_true rfl)) dJ0_checkIndex_df160_5 ⟨Nat.le_of_ble_eq_true rfl, Nat.le_of_ble_eq_true rfl⟩) hS (fun q _ h => hFc q h) hFc (fun r1 u2 t H1 locs ht9 hvm hw hB hz1 hk1 hS => ?_)
    obtain ⟨hw3, -⟩ := hw
    replace hw3 : (0 : Int) ≤ r1.toInt ∧ r1.toInt ≤ 2147483647 := hw3
    obtain ⟨hP1, hD1⟩ := hB
    rw [ht9] at hP1
    obtain ⟨hP, hD⟩ := va_join (wr := []) (w1 := []) hP hD [] [] rfl rfl (by decide) (by decide) hk1 hFc hP1 hD1
    generalize H1 = H at hP hS ⊢
    replace hP : va_P (dC, dI) vwCl [] H := hP
    replace hD : va_D A [] := hD
    refine lv_pop hx hb dJ0_checkIndex_df160_8 rfl ?_
    have hP9 := hP.sub (ws' := []) [] rfl
    have hD9 := hD.sub (ws' := []) [] (by decide) rfl
    rw [hQ]
    exact W.vret hx hb hr (fun t ht hW => ⟨⟨(), rfl, trivial, (by rw [ht]; exact hP9), hD9⟩, hS.F ht⟩) hS.2.2 dJ0_checkIndex_df160_9
  · refine va_gets hx hb hz hS hown (hwd _ kr20_21) (fun _ h9 => h9) dJ0_checkIndex_df160_2 ?_
    have hPc := hP.sub (ws' := []) [] rfl
    have hDc := hD.sub (ws' := []) [] (by decide) rfl
    have hFc := va_free (wc := []) hD hS hA [] rfl
    refine va_calli (va_runS (As := [.int p0, .int p1, .ref t9]) (rest := []) ⟨hx, hb, hml, hown, hwd⟩ (s_J3_chk1 l dC dI cI cZ cB cJ cM cG t9 p0 p1 s.heap.size (by omega)) (va_cwS 3 hwd (gSJ kr20_22 kr20_23 kr6_2 kr21_0) rfl rfl rfl (by decide +kernel) ⟨Nat.le_of_ble_eq_true rfl, Nat.le_of_ble_eq_true rfl⟩) (kPreS hPc hK hDc) rfl rfl hl.1 rfl (lv_room (Nat.le_of_ble_eq_true rfl)) dJ0_checkIndex_df160_5 ⟨Nat.le_of_ble_eq_true rfl, Nat.le_of_ble_eq_true rfl⟩) hS (fun q _ h => hFc q h) hFc (fun r4 u5 t H1 locs ht9 hvm hw hB hz1 hk1 hS => ?_)
    obtain ⟨hw6, -⟩ := hw
    replace hw6 : (0 : Int) ≤ r4.toInt ∧ r4.toInt ≤ 2147483647 := hw6
    obtain ⟨hP1, hD1⟩ := hB
    rw [ht9] at hP1
    obtain ⟨hP, hD⟩ := va_join (wr := []) (w1 := []) hP hD [] [] rfl rfl (by decide) (by decide) hk1 hFc hP1 hD1
    generalize H1 = H at hP hS ⊢
    replace hP : va_P (dC, dI) vwCl [] H := hP
    replace hD : va_D A [] := hD
    refine lv_pop hx hb dJ0_checkIndex_df160_8 rfl ?_
    have hP9 := hP.sub (ws' := []) [] rfl
    have hD9 := hD.sub (ws' := []) [] (by decide) rfl
    rw [hQ]
    exact W.vret hx hb hr (fun t ht hW => ⟨⟨(), rfl, trivial, (by rw [ht]; exact hP9), hD9⟩, hS.F ht⟩) hS.2.2 dJ0_checkIndex_df160_9
theorem dJ1_charAt_3b067_0 : decode cJ1_charAt_3b067 0 = .ok (.iload_n 1, 1) := by decide +kernel
theorem dJ1_charAt_3b067_1 : decode cJ1_charAt_3b067 1 = .ok (.aload_n 0, 1) := by decide +kernel
theorem dJ1_charAt_3b067_2 : decode cJ1_charAt_3b067 2 = .ok (.arraylength, 1) := by decide +kernel
theorem dJ1_charAt_3b067_3 : decode cJ1_charAt_3b067 3 = .ok (.invokestatic 9, 3) := by decide +kernel
theorem dJ1_charAt_3b067_6 : decode cJ1_charAt_3b067 6 = .ok (.aload_n 0, 1) := by decide +kernel
theorem dJ1_charAt_3b067_7 : decode cJ1_charAt_3b067 7 = .ok (.iload_n 1, 1) := by decide +kernel
theorem dJ1_charAt_3b067_8 : decode cJ1_charAt_3b067 8 = .ok (.baload, 1) := by decide +kernel
theorem dJ1_charAt_3b067_9 : decode cJ1_charAt_3b067 9 = .ok (.sipush 255, 3) := by decide +kernel
theorem dJ1_charAt_3b067_12 : decode cJ1_charAt_3b067 12 = .ok (.iand, 1) := by decide +kernel
theorem dJ1_charAt_3b067_13 : decode cJ1_charAt_3b067 13 = .ok (.i2c, 1) := by decide +kernel
theorem dJ1_charAt_3b067_14 : decode cJ1_charAt_3b067 14 = .ok (.ireturn, 1) := by decide +kernel
set_option maxHeartbeats 4000000 in
set_option maxRecDepth 100000 in
theorem s_J1_charAt_3b067 (l : Launch) (dC : Nat → ClassId) (dI : Nat → Nat → Nat) (cI cZ cB cJ cM cG : ClassId) (p1 : Int32) (sa sav sn : Nat) (sf : Nat → Int32) (sz : Nat) (p_0 : 0 ≤ p1.toInt ∧ p1.toInt < (sn : Int)) : Met l yJ1_charAt_3b067 (kw yJ1_charAt_3b067 cJ1_charAt_3b067 2 (some .char)) ({ frames := 2, cells := 0, slots := 0, locals := 43 } : Room) (va_Pc [.ref sav, .int p1] (kPreX dC dI [(cI, .int), (cZ, .boolean), (cB, .byte), (cJ, .long), (cM, .object RX2), (cG, .array .int)] [] sz (NS sa sav sn sf))) (va_Qi (fun (r : Int32) (u9 : Unit) => ((0 : Int) ≤ r.toInt ∧ r.toInt ≤ 255) ∧ (narrow .char (.int r) = .int r) ∧ True) (fun u9 t => va_P (dC, dI) vwCl [] t.heap ∧ va_D (va_A [] sz) []) (va_A [] sz)) 0 0 (va_A [] sz) := by
  refine kEnterX (by decide) (Nat.le_of_ble_eq_true rfl) ?_
  intro p e s m below meth c ls hx hb hr hml hown hlocks hin hwd hsz hP hK hD hN hl
  subst hsz
  generalize hAe : va_A [] s.heap.size = A at hD hN ⊢
  have hA : ∀ q : Nat, s.heap.size ≤ q → A q := fun q h => by rw [← hAe]; exact Or.inr h
  have hS : va_S A s.heap s.heap [] := va_S.rf
  have hl : lv_has ls 2 [(0, .ref sav), (1, .int p1)] := hl
  obtain ⟨Q, hQ⟩ : ∃ Q, Q = MQ below (va_Qi (fun (r : Int32) (u9 : Unit) => ((0 : Int) ≤ r.toInt ∧ r.toInt ≤ 255) ∧ (narrow .char (.int r) = .int r) ∧ True) (fun u9 t => va_P (dC, dI) vwCl [] t.heap ∧ va_D A []) A) ([.ref sav, .int p1] : List Value).toArray s 0 0 A := ⟨_, rfl⟩
  rw [← hQ]
  have k255 : (255 : Int32).toInt = 255 := by decide
  refine lv_iload_n hx hb dJ1_charAt_3b067_0 rfl (lv_at hl 1 rfl) ?_
  refine lv_aload_n hx hb dJ1_charAt_3b067_1 rfl (lv_at hl 0 rfl) ?_
  refine va_tlen hx hb hN.2.2.2.2.2 hS rfl dJ1_charAt_3b067_2 ?_
  refine lv_topi (fun x1 ex1 => ?_)
  have tx1 := of_len hN.2.1
  rw [← ex1] at tx1
  have ux1 := hN.2.1
  have hPc := hP.sub (ws' := []) [] rfl
  have hDc := hD.sub (ws' := []) [] (by decide) rfl
  have hFc := va_free (wc := []) hD hS hA [] rfl
  refine va_callv (va_runS (As := [.int p1, .int x1]) (rest := []) ⟨hx, hb, hml, hown, hwd⟩ (s_J0_checkIndex_df160 l dC dI cI cZ cB cJ cM cG p1 x1 sa sav sn sf s.heap.size (by omega)) (va_cwS 2 hwd (gSJ kr20_18 kr20_19 kr6_0 kr20_20) rfl rfl rfl (by decide +kernel) ⟨Nat.le_of_ble_eq_true rfl, Nat.le_of_ble_eq_true rfl⟩) (kPreSX hPc hK hDc (NS_st _ _ _ _) hN hS hFc) rfl rfl hl.1 rfl (lv_room (Nat.le_of_ble_eq_true rfl)) dJ1_charAt_3b067_3 ⟨Nat.le_of_ble_eq_true rfl, Nat.le_of_ble_eq_true rfl⟩) hS (fun q _ h => hFc q h) hFc (fun u3 t H1 locs ht9 hvm hw hB hz1 hk1 hS => ?_)
  obtain ⟨hP1, hD1⟩ := hB
  rw [ht9] at hP1
  obtain ⟨hP, hD⟩ := va_join (wr := []) (w1 := []) hP hD [] [] rfl rfl (by decide) (by decide) hk1 hFc hP1 hD1
  generalize H1 = H at hP hS ⊢
  replace hP : va_P (dC, dI) vwCl [] H := hP
  replace hD : va_D A [] := hD
  refine lv_aload_n hx hb dJ1_charAt_3b067_6 rfl (lv_at hl 0 rfl) ?_
  refine lv_iload_n hx hb dJ1_charAt_3b067_7 rfl (lv_at hl 1 rfl) ?_
  refine va_tb hx hb hN.2.2.2.2.2 hS (vp_of (by omega) (by omega)) rfl dJ1_charAt_3b067_8 ?_
  refine lv_topi (fun x4 ex4 => ?_)
  refine lv_sipush (v := 255) hx hb dJ1_charAt_3b067_9 (by decide) ?_
  refine lv_iand hx hb dJ1_charAt_3b067_12 ?_
  refine lv_topi (fun x5 ex5 => ?_)
  have tx5 := ia_and (a := x4) (m := (255 : Int32)) (by decide)
  rw [← ex5] at tx5
  refine lv_i2c (v := x5) hx hb dJ1_charAt_3b067_13 (by rw [ex5]; exact sc_c2 _) ?_
  have hP9 := hP.sub (ws' := []) [] rfl
  have hD9 := hD.sub (ws' := []) [] (by decide) rfl
  rw [hQ]
  exact W.zret (v := x5) hx hb hr (by rw [ex5]; exact sc_nar _) (fun t ht hW => ⟨⟨x5, (), rfl, ⟨(show (0 : Int) ≤ x5.toInt ∧ x5.toInt ≤ 255 from ⟨by omega, by omega⟩), (by rw [ex5]; exact sc_nar _), trivial⟩, (by rw [ht]; exact hP9), hD9⟩, hS.F ht⟩) hS.2.2 dJ1_charAt_3b067_14
theorem dJ0_charAt_5068e_0 : decode cJ0_charAt_5068e 0 = .ok (.aload_n 0, 1) := by decide +kernel
theorem dJ0_charAt_5068e_1 : decode cJ0_charAt_5068e 1 = .ok (.invokevirtual 492, 3) := by decide +kernel
theorem dJ0_charAt_5068e_4 : decode cJ0_charAt_5068e 4 = .ok (.ifCond .eq 12, 3) := by decide +kernel
theorem dJ0_charAt_5068e_7 : decode cJ0_charAt_5068e 7 = .ok (.aload_n 0, 1) := by decide +kernel
theorem dJ0_charAt_5068e_8 : decode cJ0_charAt_5068e 8 = .ok (.getfield 9, 3) := by decide +kernel
theorem dJ0_charAt_5068e_11 : decode cJ0_charAt_5068e 11 = .ok (.iload_n 1, 1) := by decide +kernel
theorem dJ0_charAt_5068e_12 : decode cJ0_charAt_5068e 12 = .ok (.invokestatic 495, 3) := by decide +kernel
theorem dJ0_charAt_5068e_15 : decode cJ0_charAt_5068e 15 = .ok (.ireturn, 1) := by decide +kernel
set_option maxHeartbeats 4000000 in
set_option maxRecDepth 100000 in
theorem s_J0_charAt_5068e (l : Launch) (dC : Nat → ClassId) (dI : Nat → Nat → Nat) (cI cZ cB cJ cM cG : ClassId) (p0 : Int32) (sa sav sn : Nat) (sf : Nat → Int32) (sz : Nat) (p_0 : 0 ≤ p0.toInt ∧ p0.toInt < (sn : Int)) : Met l yJ0_charAt_5068e (kw yJ0_charAt_5068e cJ0_charAt_5068e 2 (some .char)) ({ frames := 3, cells := 0, slots := 0, locals := 64 } : Room) (va_Pc [.ref sa, .int p0] (kPreX dC dI [(cI, .int), (cZ, .boolean), (cB, .byte), (cJ, .long), (cM, .object RX2), (cG, .array .int)] [] sz (NS sa sav sn sf))) (va_Qi (fun (r : Int32) (u9 : Unit) => ((0 : Int) ≤ r.toInt ∧ r.toInt ≤ 255) ∧ (narrow .char (.int r) = .int r) ∧ True) (fun u9 t => va_P (dC, dI) vwCl [] t.heap ∧ va_D (va_A [] sz) []) (va_A [] sz)) 0 0 (va_A [] sz) := by
  refine kEnterX (by decide) (Nat.le_of_ble_eq_true rfl) ?_
  intro p e s m below meth c ls hx hb hr hml hown hlocks hin hwd hsz hP hK hD hN hl
  subst hsz
  generalize hAe : va_A [] s.heap.size = A at hD hN ⊢
  have hA : ∀ q : Nat, s.heap.size ≤ q → A q := fun q h => by rw [← hAe]; exact Or.inr h
  have hS : va_S A s.heap s.heap [] := va_S.rf
  have hl : lv_has ls 2 [(0, .ref sa), (1, .int p0)] := hl
  obtain ⟨Q, hQ⟩ : ∃ Q, Q = MQ below (va_Qi (fun (r : Int32) (u9 : Unit) => ((0 : Int) ≤ r.toInt ∧ r.toInt ≤ 255) ∧ (narrow .char (.int r) = .int r) ∧ True) (fun u9 t => va_P (dC, dI) vwCl [] t.heap ∧ va_D A []) A) ([.ref sa, .int p0] : List Value).toArray s 0 0 A := ⟨_, rfl⟩
  rw [← hQ]
  have k1 : (1 : Int32).toInt = 1 := by decide
  refine lv_aload_n hx hb dJ0_charAt_5068e_0 rfl (lv_at hl 0 rfl) ?_
  have hPc := hP.sub (ws' := []) [] rfl
  have hDc := hD.sub (ws' := []) [] (by decide) rfl
  have hFc := va_free (wc := []) hD hS hA [] rfl
  refine va_calli (va_runV (As := []) (rest := []) ⟨hx, hb, hml, hown, hwd⟩ (s_J0_isLatin1_aae02 l dC dI cI cZ cB cJ cM cG sa sav sn sf s.heap.size) (cwV 0 hwd (gV kr20_11 kr20_12 kr20_13 kr6_0 kr20_14) rfl rfl rfl (by decide +kernel) ⟨Nat.le_of_ble_eq_true rfl, Nat.le_of_ble_eq_true rfl⟩) (kPreVS hPc hK hDc (NS_st _ _ _ _) hN hS hFc hN.2.2.1) rfl rfl hl.1 rfl (lv_room (Nat.le_of_ble_eq_true rfl)) dJ0_charAt_5068e_1 ⟨Nat.le_of_ble_eq_true rfl, Nat.le_of_ble_eq_true rfl⟩) hS (fun q _ h => hFc q h) hFc (fun r1 u2 t H1 locs ht9 hvm hw hB hz1 hk1 hS => ?_)
  obtain ⟨hw3, -⟩ := hw
  replace hw3 : (1 : Int) ≤ r1.toInt ∧ r1.toInt ≤ 1 := hw3
  obtain ⟨hP1, hD1⟩ := hB
  rw [ht9] at hP1
  obtain ⟨hP, hD⟩ := va_join (wr := []) (w1 := []) hP hD [] [] rfl rfl (by decide) (by decide) hk1 hFc hP1 hD1
  generalize H1 = H at hP hS ⊢
  replace hP : va_P (dC, dI) vwCl [] H := hP
  replace hD : va_D A [] := hD
  have er1 : r1 = 1 := (ki_eq _ _).mpr (by omega)
  subst er1
  refine lv_if_eq (tgt := 16) hx hb dJ0_charAt_5068e_4 (by decide) (fun c4 => absurd c4 (by decide)) (fun c4 => ?_)
  refine lv_aload_n hx hb dJ0_charAt_5068e_7 rfl (lv_at hl 0 rfl) ?_
  refine vk_getf hx hb hN.2.2.2.2.1 hS hown (hwd _ kr68_22) (fun _ h9 => h9) dJ0_charAt_5068e_8 ?_
  refine lv_iload_n hx hb dJ0_charAt_5068e_11 rfl (lv_at hl 1 rfl) ?_
  have hPc := hP.sub (ws' := []) [] rfl
  have hDc := hD.sub (ws' := []) [] (by decide) rfl
  have hFc := va_free (wc := []) hD hS hA [] rfl
  refine va_calli (va_runS (As := [.ref sav, .int p0]) (rest := []) ⟨hx, hb, hml, hown, hwd⟩ (s_J1_charAt_3b067 l dC dI cI cZ cB cJ cM cG p0 sa sav sn sf H.size (by omega)) (va_cwS 2 hwd (gSJ kr20_15 kr20_16 kr6_1 kr20_17) rfl rfl rfl (by decide +kernel) ⟨Nat.le_of_ble_eq_true rfl, Nat.le_of_ble_eq_true rfl⟩) (kPreSX hPc hK hDc (NS_st _ _ _ _) hN hS hFc) rfl rfl hl.1 rfl (lv_room (Nat.le_of_ble_eq_true rfl)) dJ0_charAt_5068e_12 ⟨Nat.le_of_ble_eq_true rfl, Nat.le_of_ble_eq_true rfl⟩) hS (fun q _ h => hFc q h) hFc (fun r5 u6 t H1 locs ht9 hvm hw hB hz1 hk1 hS => ?_)
  obtain ⟨hw7, hw8, -⟩ := hw
  replace hw7 : (0 : Int) ≤ r5.toInt ∧ r5.toInt ≤ 255 := hw7
  obtain ⟨hP1, hD1⟩ := hB
  rw [ht9] at hP1
  obtain ⟨hP, hD⟩ := va_join (wr := []) (w1 := []) hP hD [] [] rfl rfl (by decide) (by decide) hk1 hFc hP1 hD1
  generalize H1 = H at hP hS ⊢
  replace hP : va_P (dC, dI) vwCl [] H := hP
  replace hD : va_D A [] := hD
  have hP9 := hP.sub (ws' := []) [] rfl
  have hD9 := hD.sub (ws' := []) [] (by decide) rfl
  rw [hQ]
  exact W.zret (v := r5) hx hb hr hw8 (fun t ht hW => ⟨⟨r5, (), rfl, ⟨(show (0 : Int) ≤ r5.toInt ∧ r5.toInt ≤ 255 from hw7), hw8, trivial⟩, (by rw [ht]; exact hP9), hD9⟩, hS.F ht⟩) hS.2.2 dJ0_charAt_5068e_15
theorem dX10_hasRoom_0 : decode cX10_hasRoom 0 = .ok (.aload_n 0, 1) := by decide +kernel
theorem dX10_hasRoom_1 : decode cX10_hasRoom 1 = .ok (.getfield 19, 3) := by decide +kernel
theorem dX10_hasRoom_4 : decode cX10_hasRoom 4 = .ok (.sipush 1580, 3) := by decide +kernel
theorem dX10_hasRoom_7 : decode cX10_hasRoom 7 = .ok (.if_icmp .gt 7, 3) := by decide +kernel
theorem dX10_hasRoom_10 : decode cX10_hasRoom 10 = .ok (.iconst 1, 1) := by decide +kernel
theorem dX10_hasRoom_11 : decode cX10_hasRoom 11 = .ok (.goto 4, 3) := by decide +kernel
theorem dX10_hasRoom_14 : decode cX10_hasRoom 14 = .ok (.iconst 0, 1) := by decide +kernel
theorem dX10_hasRoom_15 : decode cX10_hasRoom 15 = .ok (.ireturn, 1) := by decide +kernel
set_option maxHeartbeats 4000000 in
set_option maxRecDepth 100000 in
theorem s_X10_hasRoom (l : Launch) (dC : Nat → ClassId) (dI : Nat → Nat → Nat) (cI cZ cB cJ cM cG : ClassId) (a0 a1 : Nat) (i0 i1 i2 i3 i4 i5 i6 : Int32) (sz : Nat) (p_0 : (0 : Int) ≤ i0.toInt ∧ i0.toInt ≤ 1600) (p_1 : (0 : Int) ≤ i4.toInt ∧ i4.toInt ≤ 1600) (p_2 : (0 : Int) ≤ i5.toInt ∧ i5.toInt ≤ 1600) : Met l yX10_hasRoom (kw yX10_hasRoom cX10_hasRoom 1 (some .boolean)) ({ frames := 0, cells := 0, slots := 0, locals := 0 } : Room) (va_Pc [.ref a0] (kPre dC dI [(cI, .int), (cZ, .boolean), (cB, .byte), (cJ, .long), (cM, .object RX2), (cG, .array .int)] [(a0, .inr (10, [.ref a1, .int i0, .int i1, .int i2, .int i3, .int i4, .int i5, .int i6]))] sz)) (va_Qi (fun (r : Int32) (u9 : Unit) => ((0 : Int) ≤ r.toInt ∧ r.toInt ≤ 1) ∧ True) (fun u9 t => va_P (dC, dI) vwCl [(a0, .inr (10, [.ref a1, .int i0, .int i1, .int i2, .int i3, .int i4, .int i5, .int i6]))] t.heap ∧ va_D (va_A [(a0, .inr (10, [.ref a1, .int i0, .int i1, .int i2, .int i3, .int i4, .int i5, .int i6]))] sz) [(a0, .inr (10, [.ref a1, .int i0, .int i1, .int i2, .int i3, .int i4, .int i5, .int i6]))]) (va_A [(a0, .inr (10, [.ref a1, .int i0, .int i1, .int i2, .int i3, .int i4, .int i5, .int i6]))] sz)) 0 0 (va_A [(a0, .inr (10, [.ref a1, .int i0, .int i1, .int i2, .int i3, .int i4, .int i5, .int i6]))] sz) := by
  refine kEnter (by decide) (Nat.le_of_ble_eq_true rfl) ?_
  intro p e s m below meth c ls hx hb hr hml hown hlocks hin hwd hsz hP hK hD hl
  subst hsz
  generalize hAe : va_A [(a0, .inr (10, [.ref a1, .int i0, .int i1, .int i2, .int i3, .int i4, .int i5, .int i6]))] s.heap.size = A at hD ⊢
  have hA : ∀ q : Nat, s.heap.size ≤ q → A q := fun q h => by rw [← hAe]; exact Or.inr h
  have hS : va_S A s.heap s.heap [] := va_S.rf
  have hl : lv_has ls 1 [(0, .ref a0)] := hl
  obtain ⟨Q, hQ⟩ : ∃ Q, Q = MQ below (va_Qi (fun (r : Int32) (u9 : Unit) => ((0 : Int) ≤ r.toInt ∧ r.toInt ≤ 1) ∧ True) (fun u9 t => va_P (dC, dI) vwCl [(a0, .inr (10, [.ref a1, .int i0, .int i1, .int i2, .int i3, .int i4, .int i5, .int i6]))] t.heap ∧ va_D A [(a0, .inr (10, [.ref a1, .int i0, .int i1, .int i2, .int i3, .int i4, .int i5, .int i6]))]) A) ([.ref a0] : List Value).toArray s 0 0 A := ⟨_, rfl⟩
  rw [← hQ]
  have k0 : (0 : Int32).toInt = 0 := by decide
  have k1 : (1 : Int32).toInt = 1 := by decide
  have k1580 : (1580 : Int32).toInt = 1580 := by decide
  refine lv_aload_n hx hb dX10_hasRoom_0 rfl (lv_at hl 0 rfl) ?_
  refine va_get (D := (dC, dI)) (ci := 10) (v := .int i0) (C := RX10) (T := TX10) (N := 8) hx hb hwd inlX10 hown hK hP 0 rfl rfl 1 (by decide) (hwd _ kr6_22) (fun _ h9 => h9) rfl dX10_hasRoom_1 ?_
  refine lv_sipush (v := 1580) hx hb dX10_hasRoom_4 (by decide) ?_
  refine lv_icmp_gt (tgt := 14) hx hb dX10_hasRoom_7 (by decide) (fun c1 => ?_) (fun c1 => ?_)
  · rw [ki_lt] at c1
    refine lv_iconst (v := 0) hx hb dX10_hasRoom_14 (by decide) ?_
    have hP9 := hP.sub (ws' := [(a0, .inr (10, [.ref a1, .int i0, .int i1, .int i2, .int i3, .int i4, .int i5, .int i6]))]) [0] rfl
    have hD9 := hD.sub (ws' := [(a0, .inr (10, [.ref a1, .int i0, .int i1, .int i2, .int i3, .int i4, .int i5, .int i6]))]) [0] (by decide) rfl
    rw [hQ]
    exact W.zret (v := 0) hx hb hr (by decide) (fun t ht hW => ⟨⟨0, (), rfl, ⟨(show (0 : Int) ≤ (0 : Int32).toInt ∧ (0 : Int32).toInt ≤ 1 from ⟨by omega, by omega⟩), trivial⟩, (by rw [ht]; exact hP9), hD9⟩, hS.F ht⟩) hS.2.2 dX10_hasRoom_15
  · rw [ki_lt] at c1
    refine lv_iconst (v := 1) hx hb dX10_hasRoom_10 (by decide) ?_
    refine lv_goto (tgt := 15) hx hb dX10_hasRoom_11 (by decide) ?_
    have hP9 := hP.sub (ws' := [(a0, .inr (10, [.ref a1, .int i0, .int i1, .int i2, .int i3, .int i4, .int i5, .int i6]))]) [0] rfl
    have hD9 := hD.sub (ws' := [(a0, .inr (10, [.ref a1, .int i0, .int i1, .int i2, .int i3, .int i4, .int i5, .int i6]))]) [0] (by decide) rfl
    rw [hQ]
    exact W.zret (v := 1) hx hb hr (by decide) (fun t ht hW => ⟨⟨1, (), rfl, ⟨(show (0 : Int) ≤ (1 : Int32).toInt ∧ (1 : Int32).toInt ≤ 1 from ⟨by omega, by omega⟩), trivial⟩, (by rw [ht]; exact hP9), hD9⟩, hS.F ht⟩) hS.2.2 dX10_hasRoom_15
theorem dX10_put_0 : decode cX10_put 0 = .ok (.bipush 24, 2) := by decide +kernel
theorem dX10_put_2 : decode cX10_put 2 = .ok (.istore_n 2, 1) := by decide +kernel
theorem dX10_put_3 : decode cX10_put 3 = .ok (.iload_n 2, 1) := by decide +kernel
theorem dX10_put_4 : decode cX10_put 4 = .ok (.ifCond .lt 42, 3) := by decide +kernel
theorem dX10_put_7 : decode cX10_put 7 = .ok (.aload_n 0, 1) := by decide +kernel
theorem dX10_put_8 : decode cX10_put 8 = .ok (.getfield 19, 3) := by decide +kernel
theorem dX10_put_11 : decode cX10_put 11 = .ok (.sipush 1600, 3) := by decide +kernel
theorem dX10_put_14 : decode cX10_put 14 = .ok (.if_icmp .ge 26, 3) := by decide +kernel
theorem dX10_put_17 : decode cX10_put 17 = .ok (.aload_n 0, 1) := by decide +kernel
theorem dX10_put_18 : decode cX10_put 18 = .ok (.getfield 11, 3) := by decide +kernel
theorem dX10_put_21 : decode cX10_put 21 = .ok (.aload_n 0, 1) := by decide +kernel
theorem dX10_put_22 : decode cX10_put 22 = .ok (.getfield 19, 3) := by decide +kernel
theorem dX10_put_25 : decode cX10_put 25 = .ok (.iload_n 1, 1) := by decide +kernel
theorem dX10_put_26 : decode cX10_put 26 = .ok (.iload_n 2, 1) := by decide +kernel
theorem dX10_put_27 : decode cX10_put 27 = .ok (.iushr, 1) := by decide +kernel
theorem dX10_put_28 : decode cX10_put 28 = .ok (.i2b, 1) := by decide +kernel
theorem dX10_put_29 : decode cX10_put 29 = .ok (.bastore, 1) := by decide +kernel
theorem dX10_put_30 : decode cX10_put 30 = .ok (.aload_n 0, 1) := by decide +kernel
theorem dX10_put_31 : decode cX10_put 31 = .ok (.dup, 1) := by decide +kernel
theorem dX10_put_32 : decode cX10_put 32 = .ok (.getfield 19, 3) := by decide +kernel
theorem dX10_put_35 : decode cX10_put 35 = .ok (.iconst 1, 1) := by decide +kernel
theorem dX10_put_36 : decode cX10_put 36 = .ok (.iadd, 1) := by decide +kernel
theorem dX10_put_37 : decode cX10_put 37 = .ok (.putfield 19, 3) := by decide +kernel
theorem dX10_put_40 : decode cX10_put 40 = .ok (.iinc 2 (-8), 3) := by decide +kernel
theorem dX10_put_43 : decode cX10_put 43 = .ok (.goto (-40), 3) := by decide +kernel
theorem dX10_put_46 : decode cX10_put 46 = .ok (.return_, 1) := by decide +kernel
set_option maxHeartbeats 4000000 in
set_option maxRecDepth 100000 in
theorem s_X10_put (l : Launch) (dC : Nat → ClassId) (dI : Nat → Nat → Nat) (cI cZ cB cJ cM cG : ClassId) (a0 a1 : Nat) (i0 i1 i2 i3 i4 i5 i6 : Int32) (xF0 : Nat → Int32) (p0 : Int32) (sz : Nat) (p_0 : (0 : Int) ≤ i0.toInt ∧ i0.toInt ≤ 1600) (p_1 : (0 : Int) ≤ i4.toInt ∧ i4.toInt ≤ 1600) (p_2 : (0 : Int) ≤ i5.toInt ∧ i5.toInt ≤ 1600) : Met l yX10_put (kw yX10_put cX10_put 3 none) ({ frames := 0, cells := 0, slots := 0, locals := 0 } : Room) (va_Pc [.ref a0, .int p0] (kPre dC dI [(cI, .int), (cZ, .boolean), (cB, .byte), (cJ, .long), (cM, .object RX2), (cG, .array .int)] [(a0, .inr (10, [.ref a1, .int i0, .int i1, .int i2, .int i3, .int i4, .int i5, .int i6])), (a1, .inl (cB, 1600, .inl xF0))] sz)) (va_Qv (fun (u9 : (Nat → Int32) × (Nat → Nat → Int32) × (Nat → Nat → Int64)) => ((0 : Int) ≤ (u9.1 0).toInt ∧ (u9.1 0).toInt ≤ 1600) ∧ True) (fun u9 t => va_P (dC, dI) vwCl [(a0, .inr (10, [.ref a1, .int (u9.1 0), .int i1, .int i2, .int i3, .int i4, .int i5, .int i6])), (a1, .inl (cB, 1600, .inl (u9.2.1 0)))] t.heap ∧ va_D (va_A [(a0, .inr (10, [.ref a1, .int i0, .int i1, .int i2, .int i3, .int i4, .int i5, .int i6])), (a1, .inl (cB, 1600, .inl xF0))] sz) [(a0, .inr (10, [.ref a1, .int (u9.1 0), .int i1, .int i2, .int i3, .int i4, .int i5, .int i6])), (a1, .inl (cB, 1600, .inl (u9.2.1 0)))]) (va_A [(a0, .inr (10, [.ref a1, .int i0, .int i1, .int i2, .int i3, .int i4, .int i5, .int i6])), (a1, .inl (cB, 1600, .inl xF0))] sz)) 0 0 (va_A [(a0, .inr (10, [.ref a1, .int i0, .int i1, .int i2, .int i3, .int i4, .int i5, .int i6])), (a1, .inl (cB, 1600, .inl xF0))] sz) := by
  refine kEnter (by decide) (Nat.le_of_ble_eq_true rfl) ?_
  intro p e s m below meth c ls hx hb hr hml hown hlocks hin hwd hsz hP hK hD hl
  subst hsz
  generalize hAe : va_A [(a0, .inr (10, [.ref a1, .int i0, .int i1, .int i2, .int i3, .int i4, .int i5, .int i6])), (a1, .inl (cB, 1600, .inl xF0))] s.heap.size = A at hD ⊢
  have hA : ∀ q : Nat, s.heap.size ≤ q → A q := fun q h => by rw [← hAe]; exact Or.inr h
  have hS : va_S A s.heap s.heap [] := va_S.rf
  have hl : lv_has ls 3 [(0, .ref a0), (1, .int p0)] := hl
  obtain ⟨Q, hQ⟩ : ∃ Q, Q = MQ below (va_Qv (fun (u9 : (Nat → Int32) × (Nat → Nat → Int32) × (Nat → Nat → Int64)) => ((0 : Int) ≤ (u9.1 0).toInt ∧ (u9.1 0).toInt ≤ 1600) ∧ True) (fun u9 t => va_P (dC, dI) vwCl [(a0, .inr (10, [.ref a1, .int (u9.1 0), .int i1, .int i2, .int i3, .int i4, .int i5, .int i6])), (a1, .inl (cB, 1600, .inl (u9.2.1 0)))] t.heap ∧ va_D A [(a0, .inr (10, [.ref a1, .int (u9.1 0), .int i1, .int i2, .int i3, .int i4, .int i5, .int i6])), (a1, .inl (cB, 1600, .inl (u9.2.1 0)))]) A) ([.ref a0, .int p0] : List Value).toArray s 0 0 A := ⟨_, rfl⟩
  rw [← hQ]
  have km8 : ((-8) : Int32).toInt = -8 := by decide
  have k0 : (0 : Int32).toInt = 0 := by decide
  have k1 : (1 : Int32).toInt = 1 := by decide
  have k24 : (24 : Int32).toInt = 24 := by decide
  have k1600 : (1600 : Int32).toInt = 1600 := by decide
  refine lv_bipush (v := 24) hx hb dX10_put_0 (by decide) ?_
  refine lv_istore_n (lv' := [(2, .int 24), (0, .ref a0), (1, .int p0)]) hx hb dX10_put_2 rfl hl (by decide) rfl (fun ls hl => ?_)
  have lp1 : ∀ (d : Nat), ∀ (H : Heap) (locs : List Loc) (ls : Array Slot) (w2_1 : Int32) (v1_1 : Int32) (g2_1 : Nat → Int32), ((-8 : Int) ≤ w2_1.toInt ∧ w2_1.toInt ≤ 24) → ((0 : Int) ≤ v1_1.toInt ∧ v1_1.toInt ≤ 1600) → (w2_1.toInt + 8).toNat < d → va_P (dC, dI) vwCl [(a0, .inr (10, [.ref a1, .int v1_1, .int i1, .int i2, .int i3, .int i4, .int i5, .int i6])), (a1, .inl (cB, 1600, .inl g2_1))] H → va_D A [(a0, .inr (10, [.ref a1, .int v1_1, .int i1, .int i2, .int i3, .int i4, .int i5, .int i6])), (a1, .inl (cB, 1600, .inl g2_1))] → va_S A s.heap H locs → lv_has ls 3 [(0, .ref a0), (1, .int p0), (2, .int w2_1)] → W p l e ({ frames := 0, cells := 0, slots := 0, locals := 0 } : Room) s m ([.ref a0, .int p0] : List Value).toArray below meth c H locs 0 0 Q (F0 m 3 ls []) := by
    intro d
    induction d with
    | zero =>
      intro H locs ls w2_1 v1_1 g2_1 hr_w2_1 hr_v1_1 hm hP hD hS hl
      omega
    | succ d ih1 =>
      intro H locs ls w2_1 v1_1 g2_1 hr_w2_1 hr_v1_1 hm hP hD hS hl
      refine lv_iload_n hx hb dX10_put_3 rfl (lv_at hl 2 rfl) ?_
      refine lv_if_lt (tgt := 46) hx hb dX10_put_4 (by decide) (fun c47 => ?_) (fun c47 => ?_)
      · rw [ki_lt] at c47
        have hP9 := hP.sub (ws' := [(a0, .inr (10, [.ref a1, .int v1_1, .int i1, .int i2, .int i3, .int i4, .int i5, .int i6])), (a1, .inl (cB, 1600, .inl g2_1))]) [0, 1] rfl
        have hD9 := hD.sub (ws' := [(a0, .inr (10, [.ref a1, .int v1_1, .int i1, .int i2, .int i3, .int i4, .int i5, .int i6])), (a1, .inl (cB, 1600, .inl g2_1))]) [0, 1] (by decide) rfl
        rw [hQ]
        exact W.vret hx hb hr (fun t ht hW => ⟨⟨(pickG 0 [v1_1], pickG (fun _ => 0) [g2_1], pickG (fun _ => 0) []), rfl, ⟨(show (0 : Int) ≤ v1_1.toInt ∧ v1_1.toInt ≤ 1600 from ⟨by omega, by omega⟩), trivial⟩, (by rw [ht]; exact hP9), hD9⟩, hS.F ht⟩) hS.2.2 dX10_put_46
      · rw [ki_lt] at c47
        refine lv_aload_n hx hb dX10_put_7 rfl (lv_at hl 0 rfl) ?_
        refine va_get (D := (dC, dI)) (ci := 10) (v := .int v1_1) (C := RX10) (T := TX10) (N := 8) hx hb hwd inlX10 hown hK hP 0 rfl rfl 1 (by decide) (hwd _ kr6_22) (fun _ h9 => h9) rfl dX10_put_8 ?_
        refine lv_sipush (v := 1600) hx hb dX10_put_11 (by decide) ?_
        refine lv_icmp_ge (tgt := 40) hx hb dX10_put_14 (by decide) (fun c48 => ?_) (fun c48 => ?_)
        · rw [ki_le] at c48
          obtain ⟨x49, ex49⟩ : ∃ y : Int32, y = w2_1 + (-8) := ⟨_, rfl⟩
          refine lv_iinc (v := x49) (lv' := [(2, .int x49), (0, .ref a0), (1, .int p0)]) hx hb dX10_put_40 hl (k := 2) rfl (by rw [ex49]; rfl) (by decide) rfl (fun ls hl => ?_)
          have tx49 := ia_add (a := w2_1) (b := ((-8) : Int32)) (by omega) (by omega)
          rw [← ex49] at tx49
          refine lv_goto (tgt := 3) hx hb dX10_put_43 (by decide) ?_
          exact ih1 _ _ ls x49 v1_1 g2_1 (show (-8 : Int) ≤ x49.toInt ∧ x49.toInt ≤ 24 from ⟨by omega, by omega⟩) (show (0 : Int) ≤ v1_1.toInt ∧ v1_1.toInt ≤ 1600 from ⟨by omega, by omega⟩) (by omega) (hP.sub (ws' := [(a0, .inr (10, [.ref a1, .int v1_1, .int i1, .int i2, .int i3, .int i4, .int i5, .int i6])), (a1, .inl (cB, 1600, .inl g2_1))]) [0, 1] rfl) (hD.sub (ws' := [(a0, .inr (10, [.ref a1, .int v1_1, .int i1, .int i2, .int i3, .int i4, .int i5, .int i6])), (a1, .inl (cB, 1600, .inl g2_1))]) [0, 1] (by decide) rfl) hS (lv_sub hl [1, 2, 0] rfl)
        · rw [ki_le] at c48
          refine lv_aload_n hx hb dX10_put_17 rfl (lv_at hl 0 rfl) ?_
          refine va_get (D := (dC, dI)) (ci := 10) (v := .ref a1) (C := RX10) (T := TX10) (N := 8) hx hb hwd inlX10 hown hK hP 0 rfl rfl 0 (by decide) (hwd _ kr6_21) (fun _ h9 => h9) rfl dX10_put_18 ?_
          refine lv_aload_n hx hb dX10_put_21 rfl (lv_at hl 0 rfl) ?_
          refine va_get (D := (dC, dI)) (ci := 10) (v := .int v1_1) (C := RX10) (T := TX10) (N := 8) hx hb hwd inlX10 hown hK hP 0 rfl rfl 1 (by decide) (hwd _ kr6_22) (fun _ h9 => h9) rfl dX10_put_22 ?_
          refine lv_iload_n hx hb dX10_put_25 rfl (lv_at hl 1 rfl) ?_
          refine lv_iload_n hx hb dX10_put_26 rfl (lv_at hl 2 rfl) ?_
          refine lv_iushr hx hb dX10_put_27 rfl ?_
          refine lv_topi (fun x50 ex50 => ?_)
          refine lv_i2b hx hb dX10_put_28 rfl ?_
          refine lv_topi (fun x51 ex51 => ?_)
          refine va_bast hx hb hK hP hD hS 1 2 rfl rfl (vp_of (by omega) (by omega)) dX10_put_29 (fun H locs hP hD hS => ?_)
          obtain ⟨f52, ef52⟩ : ∃ f, f = upd g2_1 v1_1.toNatClampNeg (vp_nar .byte x51) := ⟨_, rfl⟩
          replace hP : va_P (dC, dI) vwCl [(a0, .inr (10, [.ref a1, .int v1_1, .int i1, .int i2, .int i3, .int i4, .int i5, .int i6])), (a1, .inl (cB, 1600, .inl f52))] H := by rw [ef52]; exact hP
          replace hD : va_D A [(a0, .inr (10, [.ref a1, .int v1_1, .int i1, .int i2, .int i3, .int i4, .int i5, .int i6])), (a1, .inl (cB, 1600, .inl f52))] := by rw [ef52]; exact hD
          refine lv_aload_n hx hb dX10_put_30 rfl (lv_at hl 0 rfl) ?_
          refine lv_dup hx hb dX10_put_31 rfl ?_
          refine va_get (D := (dC, dI)) (ci := 10) (v := .int v1_1) (C := RX10) (T := TX10) (N := 8) hx hb hwd inlX10 hown hK hP 0 rfl rfl 1 (by decide) (hwd _ kr6_22) (fun _ h9 => h9) rfl dX10_put_32 ?_
          refine lv_iconst (v := 1) hx hb dX10_put_35 (by decide) ?_
          refine lv_iadd hx hb dX10_put_36 ?_
          refine lv_topi (fun x53 ex53 => ?_)
          have tx53 := ia_add (a := v1_1) (b := (1 : Int32)) (by omega) (by omega)
          rw [← ex53] at tx53
          refine va_put (D := (dC, dI)) (ci := 10) (v := .int x53) (ty := .int) (C := RX10) (T := TX10) (N := 8) hx hb hwd inlX10 tyX10 tyX10_ok nmX10 hown hK hP hD hS 0 rfl rfl 1 (by decide) (hwd _ kr6_22) (fun _ h9 => h9) rfl (by decide +kernel) rfl rfl (Nat.le_of_ble_eq_true rfl) dX10_put_37 (fun H locs hP hD hS => ?_)
          replace hP : va_P (dC, dI) vwCl [(a0, .inr (10, [.ref a1, .int x53, .int i1, .int i2, .int i3, .int i4, .int i5, .int i6])), (a1, .inl (cB, 1600, .inl f52))] H := hP
          replace hD : va_D A [(a0, .inr (10, [.ref a1, .int x53, .int i1, .int i2, .int i3, .int i4, .int i5, .int i6])), (a1, .inl (cB, 1600, .inl f52))] := hD
          obtain ⟨x54, ex54⟩ : ∃ y : Int32, y = w2_1 + (-8) := ⟨_, rfl⟩
          refine lv_iinc (v := x54) (lv' := [(2, .int x54), (0, .ref a0), (1, .int p0)]) hx hb dX10_put_40 hl (k := 2) rfl (by rw [ex54]; rfl) (by decide) rfl (fun ls hl => ?_)
          have tx54 := ia_add (a := w2_1) (b := ((-8) : Int32)) (by omega) (by omega)
          rw [← ex54] at tx54
          refine lv_goto (tgt := 3) hx hb dX10_put_43 (by decide) ?_
          exact ih1 _ _ ls x54 x53 f52 (show (-8 : Int) ≤ x54.toInt ∧ x54.toInt ≤ 24 from ⟨by omega, by omega⟩) (show (0 : Int) ≤ x53.toInt ∧ x53.toInt ≤ 1600 from ⟨by omega, by omega⟩) (by omega) (hP.sub (ws' := [(a0, .inr (10, [.ref a1, .int x53, .int i1, .int i2, .int i3, .int i4, .int i5, .int i6])), (a1, .inl (cB, 1600, .inl f52))]) [0, 1] rfl) (hD.sub (ws' := [(a0, .inr (10, [.ref a1, .int x53, .int i1, .int i2, .int i3, .int i4, .int i5, .int i6])), (a1, .inl (cB, 1600, .inl f52))]) [0, 1] (by decide) rfl) hS (lv_sub hl [1, 2, 0] rfl)
  exact lp1 _ _ _ ls (24) i0 xF0 (show (-8 : Int) ≤ (24 : Int32).toInt ∧ (24 : Int32).toInt ≤ 24 from ⟨by omega, by omega⟩) (show (0 : Int) ≤ i0.toInt ∧ i0.toInt ≤ 1600 from p_0) (Nat.lt_succ_self _) (hP.sub (ws' := [(a0, .inr (10, [.ref a1, .int i0, .int i1, .int i2, .int i3, .int i4, .int i5, .int i6])), (a1, .inl (cB, 1600, .inl xF0))]) [0, 1] rfl) (hD.sub (ws' := [(a0, .inr (10, [.ref a1, .int i0, .int i1, .int i2, .int i3, .int i4, .int i5, .int i6])), (a1, .inl (cB, 1600, .inl xF0))]) [0, 1] (by decide) rfl) hS (lv_sub hl [1, 2, 0] rfl)
theorem dX10_goesOn_0 : decode cX10_goesOn 0 = .ok (.aload_n 0, 1) := by decide +kernel
theorem dX10_goesOn_1 : decode cX10_goesOn 1 = .ok (.getfield 22, 3) := by decide +kernel
theorem dX10_goesOn_4 : decode cX10_goesOn 4 = .ok (.ifCond .ne 14, 3) := by decide +kernel
theorem dX10_goesOn_7 : decode cX10_goesOn 7 = .ok (.aload_n 0, 1) := by decide +kernel
theorem dX10_goesOn_8 : decode cX10_goesOn 8 = .ok (.getfield 31, 3) := by decide +kernel
theorem dX10_goesOn_11 : decode cX10_goesOn 11 = .ok (.ifCond .eq 7, 3) := by decide +kernel
theorem dX10_goesOn_14 : decode cX10_goesOn 14 = .ok (.iconst 1, 1) := by decide +kernel
theorem dX10_goesOn_15 : decode cX10_goesOn 15 = .ok (.goto 4, 3) := by decide +kernel
theorem dX10_goesOn_18 : decode cX10_goesOn 18 = .ok (.iconst 0, 1) := by decide +kernel
theorem dX10_goesOn_19 : decode cX10_goesOn 19 = .ok (.ireturn, 1) := by decide +kernel
set_option maxHeartbeats 4000000 in
set_option maxRecDepth 100000 in
theorem s_X10_goesOn (l : Launch) (dC : Nat → ClassId) (dI : Nat → Nat → Nat) (cI cZ cB cJ cM cG : ClassId) (a0 a1 : Nat) (i0 i1 i2 i3 i4 i5 i6 : Int32) (sz : Nat) (p_0 : (0 : Int) ≤ i0.toInt ∧ i0.toInt ≤ 1600) (p_1 : (0 : Int) ≤ i4.toInt ∧ i4.toInt ≤ 1600) (p_2 : (0 : Int) ≤ i5.toInt ∧ i5.toInt ≤ 1600) : Met l yX10_goesOn (kw yX10_goesOn cX10_goesOn 1 (some .boolean)) ({ frames := 0, cells := 0, slots := 0, locals := 0 } : Room) (va_Pc [.ref a0] (kPre dC dI [(cI, .int), (cZ, .boolean), (cB, .byte), (cJ, .long), (cM, .object RX2), (cG, .array .int)] [(a0, .inr (10, [.ref a1, .int i0, .int i1, .int i2, .int i3, .int i4, .int i5, .int i6]))] sz)) (va_Qi (fun (r : Int32) (u9 : Unit) => ((0 : Int) ≤ r.toInt ∧ r.toInt ≤ 1) ∧ True) (fun u9 t => va_P (dC, dI) vwCl [(a0, .inr (10, [.ref a1, .int i0, .int i1, .int i2, .int i3, .int i4, .int i5, .int i6]))] t.heap ∧ va_D (va_A [(a0, .inr (10, [.ref a1, .int i0, .int i1, .int i2, .int i3, .int i4, .int i5, .int i6]))] sz) [(a0, .inr (10, [.ref a1, .int i0, .int i1, .int i2, .int i3, .int i4, .int i5, .int i6]))]) (va_A [(a0, .inr (10, [.ref a1, .int i0, .int i1, .int i2, .int i3, .int i4, .int i5, .int i6]))] sz)) 0 0 (va_A [(a0, .inr (10, [.ref a1, .int i0, .int i1, .int i2, .int i3, .int i4, .int i5, .int i6]))] sz) := by
  refine kEnter (by decide) (Nat.le_of_ble_eq_true rfl) ?_
  intro p e s m below meth c ls hx hb hr hml hown hlocks hin hwd hsz hP hK hD hl
  subst hsz
  generalize hAe : va_A [(a0, .inr (10, [.ref a1, .int i0, .int i1, .int i2, .int i3, .int i4, .int i5, .int i6]))] s.heap.size = A at hD ⊢
  have hA : ∀ q : Nat, s.heap.size ≤ q → A q := fun q h => by rw [← hAe]; exact Or.inr h
  have hS : va_S A s.heap s.heap [] := va_S.rf
  have hl : lv_has ls 1 [(0, .ref a0)] := hl
  obtain ⟨Q, hQ⟩ : ∃ Q, Q = MQ below (va_Qi (fun (r : Int32) (u9 : Unit) => ((0 : Int) ≤ r.toInt ∧ r.toInt ≤ 1) ∧ True) (fun u9 t => va_P (dC, dI) vwCl [(a0, .inr (10, [.ref a1, .int i0, .int i1, .int i2, .int i3, .int i4, .int i5, .int i6]))] t.heap ∧ va_D A [(a0, .inr (10, [.ref a1, .int i0, .int i1, .int i2, .int i3, .int i4, .int i5, .int i6]))]) A) ([.ref a0] : List Value).toArray s 0 0 A := ⟨_, rfl⟩
  rw [← hQ]
  have k0 : (0 : Int32).toInt = 0 := by decide
  have k1 : (1 : Int32).toInt = 1 := by decide
  refine lv_aload_n hx hb dX10_goesOn_0 rfl (lv_at hl 0 rfl) ?_
  refine va_get (D := (dC, dI)) (ci := 10) (v := .int i1) (C := RX10) (T := TX10) (N := 8) hx hb hwd inlX10 hown hK hP 0 rfl rfl 2 (by decide) (hwd _ kr7_0) (fun _ h9 => h9) rfl dX10_goesOn_1 ?_
  refine lv_if_ne (tgt := 18) hx hb dX10_goesOn_4 (by decide) (fun c1 => ?_) (fun c1 => ?_)
  · rw [ki_eq] at c1
    refine lv_iconst (v := 0) hx hb dX10_goesOn_18 (by decide) ?_
    have hP9 := hP.sub (ws' := [(a0, .inr (10, [.ref a1, .int i0, .int i1, .int i2, .int i3, .int i4, .int i5, .int i6]))]) [0] rfl
    have hD9 := hD.sub (ws' := [(a0, .inr (10, [.ref a1, .int i0, .int i1, .int i2, .int i3, .int i4, .int i5, .int i6]))]) [0] (by decide) rfl
    rw [hQ]
    exact W.zret (v := 0) hx hb hr (by decide) (fun t ht hW => ⟨⟨0, (), rfl, ⟨(show (0 : Int) ≤ (0 : Int32).toInt ∧ (0 : Int32).toInt ≤ 1 from ⟨by omega, by omega⟩), trivial⟩, (by rw [ht]; exact hP9), hD9⟩, hS.F ht⟩) hS.2.2 dX10_goesOn_19
  · rw [ki_eq] at c1
    refine lv_aload_n hx hb dX10_goesOn_7 rfl (lv_at hl 0 rfl) ?_
    refine va_get (D := (dC, dI)) (ci := 10) (v := .int i3) (C := RX10) (T := TX10) (N := 8) hx hb hwd inlX10 hown hK hP 0 rfl rfl 4 (by decide) (hwd _ kr7_5) (fun _ h9 => h9) rfl dX10_goesOn_8 ?_
    refine lv_if_eq (tgt := 18) hx hb dX10_goesOn_11 (by decide) (fun c2 => ?_) (fun c2 => ?_)
    · rw [ki_eq] at c2
      refine lv_iconst (v := 0) hx hb dX10_goesOn_18 (by decide) ?_
      have hP9 := hP.sub (ws' := [(a0, .inr (10, [.ref a1, .int i0, .int i1, .int i2, .int i3, .int i4, .int i5, .int i6]))]) [0] rfl
      have hD9 := hD.sub (ws' := [(a0, .inr (10, [.ref a1, .int i0, .int i1, .int i2, .int i3, .int i4, .int i5, .int i6]))]) [0] (by decide) rfl
      rw [hQ]
      exact W.zret (v := 0) hx hb hr (by decide) (fun t ht hW => ⟨⟨0, (), rfl, ⟨(show (0 : Int) ≤ (0 : Int32).toInt ∧ (0 : Int32).toInt ≤ 1 from ⟨by omega, by omega⟩), trivial⟩, (by rw [ht]; exact hP9), hD9⟩, hS.F ht⟩) hS.2.2 dX10_goesOn_19
    · rw [ki_eq] at c2
      refine lv_iconst (v := 1) hx hb dX10_goesOn_14 (by decide) ?_
      refine lv_goto (tgt := 19) hx hb dX10_goesOn_15 (by decide) ?_
      have hP9 := hP.sub (ws' := [(a0, .inr (10, [.ref a1, .int i0, .int i1, .int i2, .int i3, .int i4, .int i5, .int i6]))]) [0] rfl
      have hD9 := hD.sub (ws' := [(a0, .inr (10, [.ref a1, .int i0, .int i1, .int i2, .int i3, .int i4, .int i5, .int i6]))]) [0] (by decide) rfl
      rw [hQ]
      exact W.zret (v := 1) hx hb hr (by decide) (fun t ht hW => ⟨⟨1, (), rfl, ⟨(show (0 : Int) ≤ (1 : Int32).toInt ∧ (1 : Int32).toInt ≤ 1 from ⟨by omega, by omega⟩), trivial⟩, (by rw [ht]; exact hP9), hD9⟩, hS.F ht⟩) hS.2.2 dX10_goesOn_19
theorem dX10_blame_0 : decode cX10_blame 0 = .ok (.aload_n 0, 1) := by decide +kernel
theorem dX10_blame_1 : decode cX10_blame 1 = .ok (.getfield 22, 3) := by decide +kernel
theorem dX10_blame_4 : decode cX10_blame 4 = .ok (.ifCond .ne 16, 3) := by decide +kernel
theorem dX10_blame_7 : decode cX10_blame 7 = .ok (.aload_n 0, 1) := by decide +kernel
theorem dX10_blame_8 : decode cX10_blame 8 = .ok (.iload_n 1, 1) := by decide +kernel
theorem dX10_blame_9 : decode cX10_blame 9 = .ok (.putfield 22, 3) := by decide +kernel
theorem dX10_blame_12 : decode cX10_blame 12 = .ok (.aload_n 0, 1) := by decide +kernel
theorem dX10_blame_13 : decode cX10_blame 13 = .ok (.aload_n 0, 1) := by decide +kernel
theorem dX10_blame_14 : decode cX10_blame 14 = .ok (.getfield 34, 3) := by decide +kernel
theorem dX10_blame_17 : decode cX10_blame 17 = .ok (.putfield 15, 3) := by decide +kernel
theorem dX10_blame_20 : decode cX10_blame 20 = .ok (.return_, 1) := by decide +kernel
set_option maxHeartbeats 4000000 in
set_option maxRecDepth 100000 in
theorem s_X10_blame (l : Launch) (dC : Nat → ClassId) (dI : Nat → Nat → Nat) (cI cZ cB cJ cM cG : ClassId) (a0 a1 : Nat) (i0 i1 i2 i3 i4 i5 i6 : Int32) (p0 : Int32) (sz : Nat) (p_0 : (0 : Int) ≤ i0.toInt ∧ i0.toInt ≤ 1600) (p_1 : (0 : Int) ≤ i4.toInt ∧ i4.toInt ≤ 1600) (p_2 : (0 : Int) ≤ i5.toInt ∧ i5.toInt ≤ 1600) : Met l yX10_blame (kw yX10_blame cX10_blame 2 none) ({ frames := 0, cells := 0, slots := 0, locals := 0 } : Room) (va_Pc [.ref a0, .int p0] (kPre dC dI [(cI, .int), (cZ, .boolean), (cB, .byte), (cJ, .long), (cM, .object RX2), (cG, .array .int)] [(a0, .inr (10, [.ref a1, .int i0, .int i1, .int i2, .int i3, .int i4, .int i5, .int i6]))] sz)) (va_Qv (fun (u9 : (Nat → Int32) × (Nat → Nat → Int32) × (Nat → Nat → Int64)) => True) (fun u9 t => va_P (dC, dI) vwCl [(a0, .inr (10, [.ref a1, .int i0, .int (u9.1 0), .int (u9.1 1), .int i3, .int i4, .int i5, .int i6]))] t.heap ∧ va_D (va_A [(a0, .inr (10, [.ref a1, .int i0, .int i1, .int i2, .int i3, .int i4, .int i5, .int i6]))] sz) [(a0, .inr (10, [.ref a1, .int i0, .int (u9.1 0), .int (u9.1 1), .int i3, .int i4, .int i5, .int i6]))]) (va_A [(a0, .inr (10, [.ref a1, .int i0, .int i1, .int i2, .int i3, .int i4, .int i5, .int i6]))] sz)) 0 0 (va_A [(a0, .inr (10, [.ref a1, .int i0, .int i1, .int i2, .int i3, .int i4, .int i5, .int i6]))] sz) := by
  refine kEnter (by decide) (Nat.le_of_ble_eq_true rfl) ?_
  intro p e s m below meth c ls hx hb hr hml hown hlocks hin hwd hsz hP hK hD hl
  subst hsz
  generalize hAe : va_A [(a0, .inr (10, [.ref a1, .int i0, .int i1, .int i2, .int i3, .int i4, .int i5, .int i6]))] s.heap.size = A at hD ⊢
  have hA : ∀ q : Nat, s.heap.size ≤ q → A q := fun q h => by rw [← hAe]; exact Or.inr h
  have hS : va_S A s.heap s.heap [] := va_S.rf
  have hl : lv_has ls 2 [(0, .ref a0), (1, .int p0)] := hl
  obtain ⟨Q, hQ⟩ : ∃ Q, Q = MQ below (va_Qv (fun (u9 : (Nat → Int32) × (Nat → Nat → Int32) × (Nat → Nat → Int64)) => True) (fun u9 t => va_P (dC, dI) vwCl [(a0, .inr (10, [.ref a1, .int i0, .int (u9.1 0), .int (u9.1 1), .int i3, .int i4, .int i5, .int i6]))] t.heap ∧ va_D A [(a0, .inr (10, [.ref a1, .int i0, .int (u9.1 0), .int (u9.1 1), .int i3, .int i4, .int i5, .int i6]))]) A) ([.ref a0, .int p0] : List Value).toArray s 0 0 A := ⟨_, rfl⟩
  rw [← hQ]
  have k0 : (0 : Int32).toInt = 0 := by decide
  refine lv_aload_n hx hb dX10_blame_0 rfl (lv_at hl 0 rfl) ?_
  refine va_get (D := (dC, dI)) (ci := 10) (v := .int i1) (C := RX10) (T := TX10) (N := 8) hx hb hwd inlX10 hown hK hP 0 rfl rfl 2 (by decide) (hwd _ kr7_0) (fun _ h9 => h9) rfl dX10_blame_1 ?_
  refine lv_if_ne (tgt := 20) hx hb dX10_blame_4 (by decide) (fun c1 => ?_) (fun c1 => ?_)
  · rw [ki_eq] at c1
    have hP9 := hP.sub (ws' := [(a0, .inr (10, [.ref a1, .int i0, .int i1, .int i2, .int i3, .int i4, .int i5, .int i6]))]) [0] rfl
    have hD9 := hD.sub (ws' := [(a0, .inr (10, [.ref a1, .int i0, .int i1, .int i2, .int i3, .int i4, .int i5, .int i6]))]) [0] (by decide) rfl
    rw [hQ]
    exact W.vret hx hb hr (fun t ht hW => ⟨⟨(pickG 0 [i1, i2], pickG (fun _ => 0) [], pickG (fun _ => 0) []), rfl, trivial, (by rw [ht]; exact hP9), hD9⟩, hS.F ht⟩) hS.2.2 dX10_blame_20
  · rw [ki_eq] at c1
    refine lv_aload_n hx hb dX10_blame_7 rfl (lv_at hl 0 rfl) ?_
    refine lv_iload_n hx hb dX10_blame_8 rfl (lv_at hl 1 rfl) ?_
    refine va_put (D := (dC, dI)) (ci := 10) (v := .int p0) (ty := .int) (C := RX10) (T := TX10) (N := 8) hx hb hwd inlX10 tyX10 tyX10_ok nmX10 hown hK hP hD hS 0 rfl rfl 2 (by decide) (hwd _ kr7_0) (fun _ h9 => h9) rfl (by decide +kernel) rfl rfl (Nat.le_of_ble_eq_true rfl) dX10_blame_9 (fun H locs hP hD hS => ?_)
    replace hP : va_P (dC, dI) vwCl [(a0, .inr (10, [.ref a1, .int i0, .int p0, .int i2, .int i3, .int i4, .int i5, .int i6]))] H := hP
    replace hD : va_D A [(a0, .inr (10, [.ref a1, .int i0, .int p0, .int i2, .int i3, .int i4, .int i5, .int i6]))] := hD
    refine lv_aload_n hx hb dX10_blame_12 rfl (lv_at hl 0 rfl) ?_
    refine lv_aload_n hx hb dX10_blame_13 rfl (lv_at hl 0 rfl) ?_
    refine va_get (D := (dC, dI)) (ci := 10) (v := .int i4) (C := RX10) (T := TX10) (N := 8) hx hb hwd inlX10 hown hK hP 0 rfl rfl 5 (by decide) (hwd _ kr7_6) (fun _ h9 => h9) rfl dX10_blame_14 ?_
    refine va_put (D := (dC, dI)) (ci := 10) (v := .int i4) (ty := .int) (C := RX10) (T := TX10) (N := 8) hx hb hwd inlX10 tyX10 tyX10_ok nmX10 hown hK hP hD hS 0 rfl rfl 3 (by decide) (hwd _ kr7_3) (fun _ h9 => h9) rfl (by decide +kernel) rfl rfl (Nat.le_of_ble_eq_true rfl) dX10_blame_17 (fun H locs hP hD hS => ?_)
    replace hP : va_P (dC, dI) vwCl [(a0, .inr (10, [.ref a1, .int i0, .int p0, .int i4, .int i3, .int i4, .int i5, .int i6]))] H := hP
    replace hD : va_D A [(a0, .inr (10, [.ref a1, .int i0, .int p0, .int i4, .int i3, .int i4, .int i5, .int i6]))] := hD
    have hP9 := hP.sub (ws' := [(a0, .inr (10, [.ref a1, .int i0, .int p0, .int i4, .int i3, .int i4, .int i5, .int i6]))]) [0] rfl
    have hD9 := hD.sub (ws' := [(a0, .inr (10, [.ref a1, .int i0, .int p0, .int i4, .int i3, .int i4, .int i5, .int i6]))]) [0] (by decide) rfl
    rw [hQ]
    exact W.vret hx hb hr (fun t ht hW => ⟨⟨(pickG 0 [p0, i4], pickG (fun _ => 0) [], pickG (fun _ => 0) []), rfl, trivial, (by rw [ht]; exact hP9), hD9⟩, hS.F ht⟩) hS.2.2 dX10_blame_20
theorem dX10_byteAt_0 : decode cX10_byteAt 0 = .ok (.iload_n 1, 1) := by decide +kernel
theorem dX10_byteAt_1 : decode cX10_byteAt 1 = .ok (.ifCond .lt 18, 3) := by decide +kernel
theorem dX10_byteAt_4 : decode cX10_byteAt 4 = .ok (.iload_n 1, 1) := by decide +kernel
theorem dX10_byteAt_5 : decode cX10_byteAt 5 = .ok (.aload_n 0, 1) := by decide +kernel
theorem dX10_byteAt_6 : decode cX10_byteAt 6 = .ok (.getfield 19, 3) := by decide +kernel
theorem dX10_byteAt_9 : decode cX10_byteAt 9 = .ok (.if_icmp .ge 10, 3) := by decide +kernel
theorem dX10_byteAt_12 : decode cX10_byteAt 12 = .ok (.iload_n 1, 1) := by decide +kernel
theorem dX10_byteAt_13 : decode cX10_byteAt 13 = .ok (.sipush 1600, 3) := by decide +kernel
theorem dX10_byteAt_16 : decode cX10_byteAt 16 = .ok (.if_icmp .lt 7, 3) := by decide +kernel
theorem dX10_byteAt_19 : decode cX10_byteAt 19 = .ok (.iconst (-1), 1) := by decide +kernel
theorem dX10_byteAt_20 : decode cX10_byteAt 20 = .ok (.goto 13, 3) := by decide +kernel
theorem dX10_byteAt_23 : decode cX10_byteAt 23 = .ok (.aload_n 0, 1) := by decide +kernel
theorem dX10_byteAt_24 : decode cX10_byteAt 24 = .ok (.getfield 11, 3) := by decide +kernel
theorem dX10_byteAt_27 : decode cX10_byteAt 27 = .ok (.iload_n 1, 1) := by decide +kernel
theorem dX10_byteAt_28 : decode cX10_byteAt 28 = .ok (.baload, 1) := by decide +kernel
theorem dX10_byteAt_29 : decode cX10_byteAt 29 = .ok (.sipush 255, 3) := by decide +kernel
theorem dX10_byteAt_32 : decode cX10_byteAt 32 = .ok (.iand, 1) := by decide +kernel
theorem dX10_byteAt_33 : decode cX10_byteAt 33 = .ok (.ireturn, 1) := by decide +kernel
set_option maxHeartbeats 4000000 in
set_option maxRecDepth 100000 in
theorem s_X10_byteAt (l : Launch) (dC : Nat → ClassId) (dI : Nat → Nat → Nat) (cI cZ cB cJ cM cG : ClassId) (a0 a1 : Nat) (i0 i1 i2 i3 i4 i5 i6 : Int32) (xF0 : Nat → Int32) (p0 : Int32) (sz : Nat) (p_0 : (0 : Int) ≤ i0.toInt ∧ i0.toInt ≤ 1600) (p_1 : (0 : Int) ≤ i4.toInt ∧ i4.toInt ≤ 1600) (p_2 : (0 : Int) ≤ i5.toInt ∧ i5.toInt ≤ 1600) : Met l yX10_byteAt (kw yX10_byteAt cX10_byteAt 2 (some .int)) ({ frames := 0, cells := 0, slots := 0, locals := 0 } : Room) (va_Pc [.ref a0, .int p0] (kPre dC dI [(cI, .int), (cZ, .boolean), (cB, .byte), (cJ, .long), (cM, .object RX2), (cG, .array .int)] [(a0, .inr (10, [.ref a1, .int i0, .int i1, .int i2, .int i3, .int i4, .int i5, .int i6])), (a1, .inl (cB, 1600, .inl xF0))] sz)) (va_Qi (fun (r : Int32) (u9 : Unit) => ((-1 : Int) ≤ r.toInt ∧ r.toInt ≤ 255) ∧ ((r.toInt ≠ -1 → p0.toInt ≥ 0 ∧ p0.toInt < i0.toInt)) ∧ True) (fun u9 t => va_P (dC, dI) vwCl [(a0, .inr (10, [.ref a1, .int i0, .int i1, .int i2, .int i3, .int i4, .int i5, .int i6])), (a1, .inl (cB, 1600, .inl xF0))] t.heap ∧ va_D (va_A [(a0, .inr (10, [.ref a1, .int i0, .int i1, .int i2, .int i3, .int i4, .int i5, .int i6])), (a1, .inl (cB, 1600, .inl xF0))] sz) [(a0, .inr (10, [.ref a1, .int i0, .int i1, .int i2, .int i3, .int i4, .int i5, .int i6])), (a1, .inl (cB, 1600, .inl xF0))]) (va_A [(a0, .inr (10, [.ref a1, .int i0, .int i1, .int i2, .int i3, .int i4, .int i5, .int i6])), (a1, .inl (cB, 1600, .inl xF0))] sz)) 0 0 (va_A [(a0, .inr (10, [.ref a1, .int i0, .int i1, .int i2, .int i3, .int i4, .int i5, .int i6])), (a1, .inl (cB, 1600, .inl xF0))] sz) := by
  refine kEnter (by decide) (Nat.le_of_ble_eq_true rfl) ?_
  intro p e s m below meth c ls hx hb hr hml hown hlocks hin hwd hsz hP hK hD hl
  subst hsz
  generalize hAe : va_A [(a0, .inr (10, [.ref a1, .int i0, .int i1, .int i2, .int i3, .int i4, .int i5, .int i6])), (a1, .inl (cB, 1600, .inl xF0))] s.heap.size = A at hD ⊢
  have hA : ∀ q : Nat, s.heap.size ≤ q → A q := fun q h => by rw [← hAe]; exact Or.inr h
  have hS : va_S A s.heap s.heap [] := va_S.rf
  have hl : lv_has ls 2 [(0, .ref a0), (1, .int p0)] := hl
  obtain ⟨Q, hQ⟩ : ∃ Q, Q = MQ below (va_Qi (fun (r : Int32) (u9 : Unit) => ((-1 : Int) ≤ r.toInt ∧ r.toInt ≤ 255) ∧ ((r.toInt ≠ -1 → p0.toInt ≥ 0 ∧ p0.toInt < i0.toInt)) ∧ True) (fun u9 t => va_P (dC, dI) vwCl [(a0, .inr (10, [.ref a1, .int i0, .int i1, .int i2, .int i3, .int i4, .int i5, .int i6])), (a1, .inl (cB, 1600, .inl xF0))] t.heap ∧ va_D A [(a0, .inr (10, [.ref a1, .int i0, .int i1, .int i2, .int i3, .int i4, .int i5, .int i6])), (a1, .inl (cB, 1600, .inl xF0))]) A) ([.ref a0, .int p0] : List Value).toArray s 0 0 A := ⟨_, rfl⟩
  rw [← hQ]
  have km1 : ((-1) : Int32).toInt = -1 := by decide
  have k0 : (0 : Int32).toInt = 0 := by decide
  have k255 : (255 : Int32).toInt = 255 := by decide
  have k1600 : (1600 : Int32).toInt = 1600 := by decide
  refine lv_iload_n hx hb dX10_byteAt_0 rfl (lv_at hl 1 rfl) ?_
  refine lv_if_lt (tgt := 19) hx hb dX10_byteAt_1 (by decide) (fun c1 => ?_) (fun c1 => ?_)
  · rw [ki_lt] at c1
    refine lv_iconst (v := (-1)) hx hb dX10_byteAt_19 (by decide) ?_
    refine lv_goto (tgt := 33) hx hb dX10_byteAt_20 (by decide) ?_
    have hP9 := hP.sub (ws' := [(a0, .inr (10, [.ref a1, .int i0, .int i1, .int i2, .int i3, .int i4, .int i5, .int i6])), (a1, .inl (cB, 1600, .inl xF0))]) [0, 1] rfl
    have hD9 := hD.sub (ws' := [(a0, .inr (10, [.ref a1, .int i0, .int i1, .int i2, .int i3, .int i4, .int i5, .int i6])), (a1, .inl (cB, 1600, .inl xF0))]) [0, 1] (by decide) rfl
    rw [hQ]
    exact W.iret (v := (-1)) hx hb hr (fun t ht hW => ⟨⟨(-1), (), rfl, ⟨(show (-1 : Int) ≤ ((-1) : Int32).toInt ∧ ((-1) : Int32).toInt ≤ 255 from ⟨by omega, by omega⟩), (show (((-1) : Int32).toInt ≠ -1 → p0.toInt ≥ 0 ∧ p0.toInt < i0.toInt) from by omega), trivial⟩, (by rw [ht]; exact hP9), hD9⟩, hS.F ht⟩) hS.2.2 dX10_byteAt_33
  · rw [ki_lt] at c1
    refine lv_iload_n hx hb dX10_byteAt_4 rfl (lv_at hl 1 rfl) ?_
    refine lv_aload_n hx hb dX10_byteAt_5 rfl (lv_at hl 0 rfl) ?_
    refine va_get (D := (dC, dI)) (ci := 10) (v := .int i0) (C := RX10) (T := TX10) (N := 8) hx hb hwd inlX10 hown hK hP 0 rfl rfl 1 (by decide) (hwd _ kr6_22) (fun _ h9 => h9) rfl dX10_byteAt_6 ?_
    refine lv_icmp_ge (tgt := 19) hx hb dX10_byteAt_9 (by decide) (fun c2 => ?_) (fun c2 => ?_)
    · rw [ki_le] at c2
      refine lv_iconst (v := (-1)) hx hb dX10_byteAt_19 (by decide) ?_
      refine lv_goto (tgt := 33) hx hb dX10_byteAt_20 (by decide) ?_
      have hP9 := hP.sub (ws' := [(a0, .inr (10, [.ref a1, .int i0, .int i1, .int i2, .int i3, .int i4, .int i5, .int i6])), (a1, .inl (cB, 1600, .inl xF0))]) [0, 1] rfl
      have hD9 := hD.sub (ws' := [(a0, .inr (10, [.ref a1, .int i0, .int i1, .int i2, .int i3, .int i4, .int i5, .int i6])), (a1, .inl (cB, 1600, .inl xF0))]) [0, 1] (by decide) rfl
      rw [hQ]
      exact W.iret (v := (-1)) hx hb hr (fun t ht hW => ⟨⟨(-1), (), rfl, ⟨(show (-1 : Int) ≤ ((-1) : Int32).toInt ∧ ((-1) : Int32).toInt ≤ 255 from ⟨by omega, by omega⟩), (show (((-1) : Int32).toInt ≠ -1 → p0.toInt ≥ 0 ∧ p0.toInt < i0.toInt) from by omega), trivial⟩, (by rw [ht]; exact hP9), hD9⟩, hS.F ht⟩) hS.2.2 dX10_byteAt_33
    · rw [ki_le] at c2
      refine lv_iload_n hx hb dX10_byteAt_12 rfl (lv_at hl 1 rfl) ?_
      refine lv_sipush (v := 1600) hx hb dX10_byteAt_13 (by decide) ?_
      refine lv_icmp_lt (tgt := 23) hx hb dX10_byteAt_16 (by decide) (fun c3 => ?_) (fun c3 => ?_)
      · rw [ki_lt] at c3
        refine lv_aload_n hx hb dX10_byteAt_23 rfl (lv_at hl 0 rfl) ?_
        refine va_get (D := (dC, dI)) (ci := 10) (v := .ref a1) (C := RX10) (T := TX10) (N := 8) hx hb hwd inlX10 hown hK hP 0 rfl rfl 0 (by decide) (hwd _ kr6_21) (fun _ h9 => h9) rfl dX10_byteAt_24 ?_
        refine lv_iload_n hx hb dX10_byteAt_27 rfl (lv_at hl 1 rfl) ?_
        have h4 : vp_in p0 1600 := (vp_of (by omega) (by omega))
        refine va_bald hx hb hK hP 1 2 rfl rfl h4 dX10_byteAt_28 ?_
        refine lv_topi (fun x5 ex5 => ?_)
        refine lv_sipush (v := 255) hx hb dX10_byteAt_29 (by decide) ?_
        refine lv_iand hx hb dX10_byteAt_32 ?_
        refine lv_topi (fun x6 ex6 => ?_)
        have tx6 := ia_and (a := x5) (m := (255 : Int32)) (by decide)
        rw [← ex6] at tx6
        have hP9 := hP.sub (ws' := [(a0, .inr (10, [.ref a1, .int i0, .int i1, .int i2, .int i3, .int i4, .int i5, .int i6])), (a1, .inl (cB, 1600, .inl xF0))]) [0, 1] rfl
        have hD9 := hD.sub (ws' := [(a0, .inr (10, [.ref a1, .int i0, .int i1, .int i2, .int i3, .int i4, .int i5, .int i6])), (a1, .inl (cB, 1600, .inl xF0))]) [0, 1] (by decide) rfl
        rw [hQ]
        exact W.iret (v := x6) hx hb hr (fun t ht hW => ⟨⟨x6, (), rfl, ⟨(show (-1 : Int) ≤ x6.toInt ∧ x6.toInt ≤ 255 from ⟨by omega, by omega⟩), (show (x6.toInt ≠ -1 → p0.toInt ≥ 0 ∧ p0.toInt < i0.toInt) from by omega), trivial⟩, (by rw [ht]; exact hP9), hD9⟩, hS.F ht⟩) hS.2.2 dX10_byteAt_33
      · rw [ki_lt] at c3
        exfalso
        omega
theorem dX10_behindBlanks_0 : decode cX10_behindBlanks 0 = .ok (.iload_n 1, 1) := by decide +kernel
theorem dX10_behindBlanks_1 : decode cX10_behindBlanks 1 = .ok (.istore_n 2, 1) := by decide +kernel
theorem dX10_behindBlanks_2 : decode cX10_behindBlanks 2 = .ok (.iload_n 2, 1) := by decide +kernel
theorem dX10_behindBlanks_3 : decode cX10_behindBlanks 3 = .ok (.aload_n 0, 1) := by decide +kernel
theorem dX10_behindBlanks_4 : decode cX10_behindBlanks 4 = .ok (.getfield 19, 3) := by decide +kernel
theorem dX10_behindBlanks_7 : decode cX10_behindBlanks 7 = .ok (.if_icmp .ge 31, 3) := by decide +kernel
theorem dX10_behindBlanks_10 : decode cX10_behindBlanks 10 = .ok (.aload_n 0, 1) := by decide +kernel
theorem dX10_behindBlanks_11 : decode cX10_behindBlanks 11 = .ok (.getfield 11, 3) := by decide +kernel
theorem dX10_behindBlanks_14 : decode cX10_behindBlanks 14 = .ok (.iload_n 2, 1) := by decide +kernel
theorem dX10_behindBlanks_15 : decode cX10_behindBlanks 15 = .ok (.baload, 1) := by decide +kernel
theorem dX10_behindBlanks_16 : decode cX10_behindBlanks 16 = .ok (.bipush 32, 2) := by decide +kernel
theorem dX10_behindBlanks_18 : decode cX10_behindBlanks 18 = .ok (.if_icmp .eq 14, 3) := by decide +kernel
theorem dX10_behindBlanks_21 : decode cX10_behindBlanks 21 = .ok (.aload_n 0, 1) := by decide +kernel
theorem dX10_behindBlanks_22 : decode cX10_behindBlanks 22 = .ok (.getfield 11, 3) := by decide +kernel
theorem dX10_behindBlanks_25 : decode cX10_behindBlanks 25 = .ok (.iload_n 2, 1) := by decide +kernel
theorem dX10_behindBlanks_26 : decode cX10_behindBlanks 26 = .ok (.baload, 1) := by decide +kernel
theorem dX10_behindBlanks_27 : decode cX10_behindBlanks 27 = .ok (.bipush 10, 2) := by decide +kernel
theorem dX10_behindBlanks_29 : decode cX10_behindBlanks 29 = .ok (.if_icmp .ne 9, 3) := by decide +kernel
theorem dX10_behindBlanks_32 : decode cX10_behindBlanks 32 = .ok (.iinc 2 1, 3) := by decide +kernel
theorem dX10_behindBlanks_35 : decode cX10_behindBlanks 35 = .ok (.goto (-33), 3) := by decide +kernel
theorem dX10_behindBlanks_38 : decode cX10_behindBlanks 38 = .ok (.iload_n 2, 1) := by decide +kernel
theorem dX10_behindBlanks_39 : decode cX10_behindBlanks 39 = .ok (.ireturn, 1) := by decide +kernel
set_option maxHeartbeats 4000000 in
set_option maxRecDepth 100000 in
theorem s_X10_behindBlanks (l : Launch) (dC : Nat → ClassId) (dI : Nat → Nat → Nat) (cI cZ cB cJ cM cG : ClassId) (a0 a1 : Nat) (i0 i1 i2 i3 i4 i5 i6 : Int32) (xF0 : Nat → Int32) (p0 : Int32) (sz : Nat) (p_0 : (0 : Int) ≤ i0.toInt ∧ i0.toInt ≤ 1600) (p_1 : (0 : Int) ≤ i4.toInt ∧ i4.toInt ≤ 1600) (p_2 : (0 : Int) ≤ i5.toInt ∧ i5.toInt ≤ 1600) (p_3 : (0 : Int) ≤ p0.toInt ∧ p0.toInt ≤ 1600) : Met l yX10_behindBlanks (kw yX10_behindBlanks cX10_behindBlanks 3 (some .int)) ({ frames := 0, cells := 0, slots := 0, locals := 0 } : Room) (va_Pc [.ref a0, .int p0] (kPre dC dI [(cI, .int), (cZ, .boolean), (cB, .byte), (cJ, .long), (cM, .object RX2), (cG, .array .int)] [(a0, .inr (10, [.ref a1, .int i0, .int i1, .int i2, .int i3, .int i4, .int i5, .int i6])), (a1, .inl (cB, 1600, .inl xF0))] sz)) (va_Qi (fun (r : Int32) (u9 : Unit) => ((0 : Int) ≤ r.toInt ∧ r.toInt ≤ 1600) ∧ True) (fun u9 t => va_P (dC, dI) vwCl [(a0, .inr (10, [.ref a1, .int i0, .int i1, .int i2, .int i3, .int i4, .int i5, .int i6])), (a1, .inl (cB, 1600, .inl xF0))] t.heap ∧ va_D (va_A [(a0, .inr (10, [.ref a1, .int i0, .int i1, .int i2, .int i3, .int i4, .int i5, .int i6])), (a1, .inl (cB, 1600, .inl xF0))] sz) [(a0, .inr (10, [.ref a1, .int i0, .int i1, .int i2, .int i3, .int i4, .int i5, .int i6])), (a1, .inl (cB, 1600, .inl xF0))]) (va_A [(a0, .inr (10, [.ref a1, .int i0, .int i1, .int i2, .int i3, .int i4, .int i5, .int i6])), (a1, .inl (cB, 1600, .inl xF0))] sz)) 0 0 (va_A [(a0, .inr (10, [.ref a1, .int i0, .int i1, .int i2, .int i3, .int i4, .int i5, .int i6])), (a1, .inl (cB, 1600, .inl xF0))] sz) := by
  refine kEnter (by decide) (Nat.le_of_ble_eq_true rfl) ?_
  intro p e s m below meth c ls hx hb hr hml hown hlocks hin hwd hsz hP hK hD hl
  subst hsz
  generalize hAe : va_A [(a0, .inr (10, [.ref a1, .int i0, .int i1, .int i2, .int i3, .int i4, .int i5, .int i6])), (a1, .inl (cB, 1600, .inl xF0))] s.heap.size = A at hD ⊢
  have hA : ∀ q : Nat, s.heap.size ≤ q → A q := fun q h => by rw [← hAe]; exact Or.inr h
  have hS : va_S A s.heap s.heap [] := va_S.rf
  have hl : lv_has ls 3 [(0, .ref a0), (1, .int p0)] := hl
  obtain ⟨Q, hQ⟩ : ∃ Q, Q = MQ below (va_Qi (fun (r : Int32) (u9 : Unit) => ((0 : Int) ≤ r.toInt ∧ r.toInt ≤ 1600) ∧ True) (fun u9 t => va_P (dC, dI) vwCl [(a0, .inr (10, [.ref a1, .int i0, .int i1, .int i2, .int i3, .int i4, .int i5, .int i6])), (a1, .inl (cB, 1600, .inl xF0))] t.heap ∧ va_D A [(a0, .inr (10, [.ref a1, .int i0, .int i1, .int i2, .int i3, .int i4, .int i5, .int i6])), (a1, .inl (cB, 1600, .inl xF0))]) A) ([.ref a0, .int p0] : List Value).toArray s 0 0 A := ⟨_, rfl⟩
  rw [← hQ]
  have k1 : (1 : Int32).toInt = 1 := by decide
  have k10 : (10 : Int32).toInt = 10 := by decide
  have k32 : (32 : Int32).toInt = 32 := by decide
  refine lv_iload_n hx hb dX10_behindBlanks_0 rfl (lv_at hl 1 rfl) ?_
  refine lv_istore_n (lv' := [(2, .int p0), (0, .ref a0), (1, .int p0)]) hx hb dX10_behindBlanks_1 rfl hl (by decide) rfl (fun ls hl => ?_)
  have lp1 : ∀ (d : Nat), ∀ (H : Heap) (locs : List Loc) (ls : Array Slot) (w2_1 : Int32), ((0 : Int) ≤ w2_1.toInt ∧ w2_1.toInt ≤ 1600) → (1600 - w2_1.toInt).toNat < d → va_P (dC, dI) vwCl [(a0, .inr (10, [.ref a1, .int i0, .int i1, .int i2, .int i3, .int i4, .int i5, .int i6])), (a1, .inl (cB, 1600, .inl xF0))] H → va_D A [(a0, .inr (10, [.ref a1, .int i0, .int i1, .int i2, .int i3, .int i4, .int i5, .int i6])), (a1, .inl (cB, 1600, .inl xF0))] → va_S A s.heap H locs → lv_has ls 3 [(0, .ref a0), (1, .int p0), (2, .int w2_1)] → W p l e ({ frames := 0, cells := 0, slots := 0, locals := 0 } : Room) s m ([.ref a0, .int p0] : List Value).toArray below meth c H locs 0 0 Q (F0 m 2 ls []) := by
    intro d
    induction d with
    | zero =>
      intro H locs ls w2_1 hr_w2_1 hm hP hD hS hl
      omega
    | succ d ih1 =>
      intro H locs ls w2_1 hr_w2_1 hm hP hD hS hl
      refine lv_iload_n hx hb dX10_behindBlanks_2 rfl (lv_at hl 2 rfl) ?_
      refine lv_aload_n hx hb dX10_behindBlanks_3 rfl (lv_at hl 0 rfl) ?_
      refine va_get (D := (dC, dI)) (ci := 10) (v := .int i0) (C := RX10) (T := TX10) (N := 8) hx hb hwd inlX10 hown hK hP 0 rfl rfl 1 (by decide) (hwd _ kr6_22) (fun _ h9 => h9) rfl dX10_behindBlanks_4 ?_
      refine lv_icmp_ge (tgt := 38) hx hb dX10_behindBlanks_7 (by decide) (fun c33 => ?_) (fun c33 => ?_)
      · rw [ki_le] at c33
        refine lv_iload_n hx hb dX10_behindBlanks_38 rfl (lv_at hl 2 rfl) ?_
        have hP9 := hP.sub (ws' := [(a0, .inr (10, [.ref a1, .int i0, .int i1, .int i2, .int i3, .int i4, .int i5, .int i6])), (a1, .inl (cB, 1600, .inl xF0))]) [0, 1] rfl
        have hD9 := hD.sub (ws' := [(a0, .inr (10, [.ref a1, .int i0, .int i1, .int i2, .int i3, .int i4, .int i5, .int i6])), (a1, .inl (cB, 1600, .inl xF0))]) [0, 1] (by decide) rfl
        rw [hQ]
        exact W.iret (v := w2_1) hx hb hr (fun t ht hW => ⟨⟨w2_1, (), rfl, ⟨(show (0 : Int) ≤ w2_1.toInt ∧ w2_1.toInt ≤ 1600 from ⟨by omega, by omega⟩), trivial⟩, (by rw [ht]; exact hP9), hD9⟩, hS.F ht⟩) hS.2.2 dX10_behindBlanks_39
      · rw [ki_le] at c33
        refine lv_aload_n hx hb dX10_behindBlanks_10 rfl (lv_at hl 0 rfl) ?_
        refine va_get (D := (dC, dI)) (ci := 10) (v := .ref a1) (C := RX10) (T := TX10) (N := 8) hx hb hwd inlX10 hown hK hP 0 rfl rfl 0 (by decide) (hwd _ kr6_21) (fun _ h9 => h9) rfl dX10_behindBlanks_11 ?_
        refine lv_iload_n hx hb dX10_behindBlanks_14 rfl (lv_at hl 2 rfl) ?_
        have h34 : vp_in w2_1 1600 := (vp_of (by omega) (by omega))
        refine va_bald hx hb hK hP 1 2 rfl rfl h34 dX10_behindBlanks_15 ?_
        refine lv_topi (fun x35 ex35 => ?_)
        refine lv_bipush (v := 32) hx hb dX10_behindBlanks_16 (by decide) ?_
        refine lv_icmp_eq (tgt := 32) hx hb dX10_behindBlanks_18 (by decide) (fun c36 => ?_) (fun c36 => ?_)
        · rw [ki_eq] at c36
          obtain ⟨x37, ex37⟩ : ∃ y : Int32, y = w2_1 + 1 := ⟨_, rfl⟩
          refine lv_iinc (v := x37) (lv' := [(2, .int x37), (0, .ref a0), (1, .int p0)]) hx hb dX10_behindBlanks_32 hl (k := 2) rfl (by rw [ex37]; rfl) (by decide) rfl (fun ls hl => ?_)
          have tx37 := ia_add (a := w2_1) (b := (1 : Int32)) (by omega) (by omega)
          rw [← ex37] at tx37
          refine lv_goto (tgt := 2) hx hb dX10_behindBlanks_35 (by decide) ?_
          exact ih1 _ _ ls x37 (show (0 : Int) ≤ x37.toInt ∧ x37.toInt ≤ 1600 from ⟨by omega, by omega⟩) (by omega) (hP.sub (ws' := [(a0, .inr (10, [.ref a1, .int i0, .int i1, .int i2, .int i3, .int i4, .int i5, .int i6])), (a1, .inl (cB, 1600, .inl xF0))]) [0, 1] rfl) (hD.sub (ws' := [(a0, .inr (10, [.ref a1, .int i0, .int i1, .int i2, .int i3, .int i4, .int i5, .int i6])), (a1, .inl (cB, 1600, .inl xF0))]) [0, 1] (by decide) rfl) hS (lv_sub hl [1, 2, 0] rfl)
        · rw [ki_eq] at c36
          refine lv_aload_n hx hb dX10_behindBlanks_21 rfl (lv_at hl 0 rfl) ?_
          refine va_get (D := (dC, dI)) (ci := 10) (v := .ref a1) (C := RX10) (T := TX10) (N := 8) hx hb hwd inlX10 hown hK hP 0 rfl rfl 0 (by decide) (hwd _ kr6_21) (fun _ h9 => h9) rfl dX10_behindBlanks_22 ?_
          refine lv_iload_n hx hb dX10_behindBlanks_25 rfl (lv_at hl 2 rfl) ?_
          have h38 : vp_in w2_1 1600 := (vp_of (by omega) (by omega))
          refine va_bald hx hb hK hP 1 2 rfl rfl h38 dX10_behindBlanks_26 ?_
          refine lv_topi (nm_r (e' := x35) ex35.symm ?_)
          refine lv_bipush (v := 10) hx hb dX10_behindBlanks_27 (by decide) ?_
          refine lv_icmp_ne (tgt := 38) hx hb dX10_behindBlanks_29 (by decide) (fun c39 => ?_) (fun c39 => ?_)
          · rw [ki_eq] at c39
            refine lv_iload_n hx hb dX10_behindBlanks_38 rfl (lv_at hl 2 rfl) ?_
            have hP9 := hP.sub (ws' := [(a0, .inr (10, [.ref a1, .int i0, .int i1, .int i2, .int i3, .int i4, .int i5, .int i6])), (a1, .inl (cB, 1600, .inl xF0))]) [0, 1] rfl
            have hD9 := hD.sub (ws' := [(a0, .inr (10, [.ref a1, .int i0, .int i1, .int i2, .int i3, .int i4, .int i5, .int i6])), (a1, .inl (cB, 1600, .inl xF0))]) [0, 1] (by decide) rfl
            rw [hQ]
            exact W.iret (v := w2_1) hx hb hr (fun t ht hW => ⟨⟨w2_1, (), rfl, ⟨(show (0 : Int) ≤ w2_1.toInt ∧ w2_1.toInt ≤ 1600 from ⟨by omega, by omega⟩), trivial⟩, (by rw [ht]; exact hP9), hD9⟩, hS.F ht⟩) hS.2.2 dX10_behindBlanks_39
          · rw [ki_eq] at c39
            obtain ⟨x40, ex40⟩ : ∃ y : Int32, y = w2_1 + 1 := ⟨_, rfl⟩
            refine lv_iinc (v := x40) (lv' := [(2, .int x40), (0, .ref a0), (1, .int p0)]) hx hb dX10_behindBlanks_32 hl (k := 2) rfl (by rw [ex40]; rfl) (by decide) rfl (fun ls hl => ?_)
            have tx40 := ia_add (a := w2_1) (b := (1 : Int32)) (by omega) (by omega)
            rw [← ex40] at tx40
            refine lv_goto (tgt := 2) hx hb dX10_behindBlanks_35 (by decide) ?_
            exact ih1 _ _ ls x40 (show (0 : Int) ≤ x40.toInt ∧ x40.toInt ≤ 1600 from ⟨by omega, by omega⟩) (by omega) (hP.sub (ws' := [(a0, .inr (10, [.ref a1, .int i0, .int i1, .int i2, .int i3, .int i4, .int i5, .int i6])), (a1, .inl (cB, 1600, .inl xF0))]) [0, 1] rfl) (hD.sub (ws' := [(a0, .inr (10, [.ref a1, .int i0, .int i1, .int i2, .int i3, .int i4, .int i5, .int i6])), (a1, .inl (cB, 1600, .inl xF0))]) [0, 1] (by decide) rfl) hS (lv_sub hl [1, 2, 0] rfl)
  exact lp1 _ _ _ ls p0 (show (0 : Int) ≤ p0.toInt ∧ p0.toInt ≤ 1600 from p_3) (Nat.lt_succ_self _) (hP.sub (ws' := [(a0, .inr (10, [.ref a1, .int i0, .int i1, .int i2, .int i3, .int i4, .int i5, .int i6])), (a1, .inl (cB, 1600, .inl xF0))]) [0, 1] rfl) (hD.sub (ws' := [(a0, .inr (10, [.ref a1, .int i0, .int i1, .int i2, .int i3, .int i4, .int i5, .int i6])), (a1, .inl (cB, 1600, .inl xF0))]) [0, 1] (by decide) rfl) hS (lv_sub hl [1, 2, 0] rfl)
theorem dX10_behindLetters_0 : decode cX10_behindLetters 0 = .ok (.iload_n 1, 1) := by decide +kernel
theorem dX10_behindLetters_1 : decode cX10_behindLetters 1 = .ok (.istore_n 2, 1) := by decide +kernel
theorem dX10_behindLetters_2 : decode cX10_behindLetters 2 = .ok (.iload_n 2, 1) := by decide +kernel
theorem dX10_behindLetters_3 : decode cX10_behindLetters 3 = .ok (.aload_n 0, 1) := by decide +kernel
theorem dX10_behindLetters_4 : decode cX10_behindLetters 4 = .ok (.getfield 19, 3) := by decide +kernel
theorem dX10_behindLetters_7 : decode cX10_behindLetters 7 = .ok (.if_icmp .ge 31, 3) := by decide +kernel
theorem dX10_behindLetters_10 : decode cX10_behindLetters 10 = .ok (.aload_n 0, 1) := by decide +kernel
theorem dX10_behindLetters_11 : decode cX10_behindLetters 11 = .ok (.getfield 11, 3) := by decide +kernel
theorem dX10_behindLetters_14 : decode cX10_behindLetters 14 = .ok (.iload_n 2, 1) := by decide +kernel
theorem dX10_behindLetters_15 : decode cX10_behindLetters 15 = .ok (.baload, 1) := by decide +kernel
theorem dX10_behindLetters_16 : decode cX10_behindLetters 16 = .ok (.bipush 97, 2) := by decide +kernel
theorem dX10_behindLetters_18 : decode cX10_behindLetters 18 = .ok (.if_icmp .lt 20, 3) := by decide +kernel
theorem dX10_behindLetters_21 : decode cX10_behindLetters 21 = .ok (.aload_n 0, 1) := by decide +kernel
theorem dX10_behindLetters_22 : decode cX10_behindLetters 22 = .ok (.getfield 11, 3) := by decide +kernel
theorem dX10_behindLetters_25 : decode cX10_behindLetters 25 = .ok (.iload_n 2, 1) := by decide +kernel
theorem dX10_behindLetters_26 : decode cX10_behindLetters 26 = .ok (.baload, 1) := by decide +kernel
theorem dX10_behindLetters_27 : decode cX10_behindLetters 27 = .ok (.bipush 122, 2) := by decide +kernel
theorem dX10_behindLetters_29 : decode cX10_behindLetters 29 = .ok (.if_icmp .gt 9, 3) := by decide +kernel
theorem dX10_behindLetters_32 : decode cX10_behindLetters 32 = .ok (.iinc 2 1, 3) := by decide +kernel
theorem dX10_behindLetters_35 : decode cX10_behindLetters 35 = .ok (.goto (-33), 3) := by decide +kernel
theorem dX10_behindLetters_38 : decode cX10_behindLetters 38 = .ok (.iload_n 2, 1) := by decide +kernel
theorem dX10_behindLetters_39 : decode cX10_behindLetters 39 = .ok (.ireturn, 1) := by decide +kernel
set_option maxHeartbeats 4000000 in
set_option maxRecDepth 100000 in
theorem s_X10_behindLetters (l : Launch) (dC : Nat → ClassId) (dI : Nat → Nat → Nat) (cI cZ cB cJ cM cG : ClassId) (a0 a1 : Nat) (i0 i1 i2 i3 i4 i5 i6 : Int32) (xF0 : Nat → Int32) (p0 : Int32) (sz : Nat) (p_0 : (0 : Int) ≤ i0.toInt ∧ i0.toInt ≤ 1600) (p_1 : (0 : Int) ≤ i4.toInt ∧ i4.toInt ≤ 1600) (p_2 : (0 : Int) ≤ i5.toInt ∧ i5.toInt ≤ 1600) (p_3 : (0 : Int) ≤ p0.toInt ∧ p0.toInt ≤ 1600) : Met l yX10_behindLetters (kw yX10_behindLetters cX10_behindLetters 3 (some .int)) ({ frames := 0, cells := 0, slots := 0, locals := 0 } : Room) (va_Pc [.ref a0, .int p0] (kPre dC dI [(cI, .int), (cZ, .boolean), (cB, .byte), (cJ, .long), (cM, .object RX2), (cG, .array .int)] [(a0, .inr (10, [.ref a1, .int i0, .int i1, .int i2, .int i3, .int i4, .int i5, .int i6])), (a1, .inl (cB, 1600, .inl xF0))] sz)) (va_Qi (fun (r : Int32) (u9 : Unit) => ((0 : Int) ≤ r.toInt ∧ r.toInt ≤ 1600) ∧ True) (fun u9 t => va_P (dC, dI) vwCl [(a0, .inr (10, [.ref a1, .int i0, .int i1, .int i2, .int i3, .int i4, .int i5, .int i6])), (a1, .inl (cB, 1600, .inl xF0))] t.heap ∧ va_D (va_A [(a0, .inr (10, [.ref a1, .int i0, .int i1, .int i2, .int i3, .int i4, .int i5, .int i6])), (a1, .inl (cB, 1600, .inl xF0))] sz) [(a0, .inr (10, [.ref a1, .int i0, .int i1, .int i2, .int i3, .int i4, .int i5, .int i6])), (a1, .inl (cB, 1600, .inl xF0))]) (va_A [(a0, .inr (10, [.ref a1, .int i0, .int i1, .int i2, .int i3, .int i4, .int i5, .int i6])), (a1, .inl (cB, 1600, .inl xF0))] sz)) 0 0 (va_A [(a0, .inr (10, [.ref a1, .int i0, .int i1, .int i2, .int i3, .int i4, .int i5, .int i6])), (a1, .inl (cB, 1600, .inl xF0))] sz) := by
  refine kEnter (by decide) (Nat.le_of_ble_eq_true rfl) ?_
  intro p e s m below meth c ls hx hb hr hml hown hlocks hin hwd hsz hP hK hD hl
  subst hsz
  generalize hAe : va_A [(a0, .inr (10, [.ref a1, .int i0, .int i1, .int i2, .int i3, .int i4, .int i5, .int i6])), (a1, .inl (cB, 1600, .inl xF0))] s.heap.size = A at hD ⊢
  have hA : ∀ q : Nat, s.heap.size ≤ q → A q := fun q h => by rw [← hAe]; exact Or.inr h
  have hS : va_S A s.heap s.heap [] := va_S.rf
  have hl : lv_has ls 3 [(0, .ref a0), (1, .int p0)] := hl
  obtain ⟨Q, hQ⟩ : ∃ Q, Q = MQ below (va_Qi (fun (r : Int32) (u9 : Unit) => ((0 : Int) ≤ r.toInt ∧ r.toInt ≤ 1600) ∧ True) (fun u9 t => va_P (dC, dI) vwCl [(a0, .inr (10, [.ref a1, .int i0, .int i1, .int i2, .int i3, .int i4, .int i5, .int i6])), (a1, .inl (cB, 1600, .inl xF0))] t.heap ∧ va_D A [(a0, .inr (10, [.ref a1, .int i0, .int i1, .int i2, .int i3, .int i4, .int i5, .int i6])), (a1, .inl (cB, 1600, .inl xF0))]) A) ([.ref a0, .int p0] : List Value).toArray s 0 0 A := ⟨_, rfl⟩
  rw [← hQ]
  have k1 : (1 : Int32).toInt = 1 := by decide
  have k97 : (97 : Int32).toInt = 97 := by decide
  have k122 : (122 : Int32).toInt = 122 := by decide
  refine lv_iload_n hx hb dX10_behindLetters_0 rfl (lv_at hl 1 rfl) ?_
  refine lv_istore_n (lv' := [(2, .int p0), (0, .ref a0), (1, .int p0)]) hx hb dX10_behindLetters_1 rfl hl (by decide) rfl (fun ls hl => ?_)
  have lp1 : ∀ (d : Nat), ∀ (H : Heap) (locs : List Loc) (ls : Array Slot) (w2_1 : Int32), ((0 : Int) ≤ w2_1.toInt ∧ w2_1.toInt ≤ 1600) → (1600 - w2_1.toInt).toNat < d → va_P (dC, dI) vwCl [(a0, .inr (10, [.ref a1, .int i0, .int i1, .int i2, .int i3, .int i4, .int i5, .int i6])), (a1, .inl (cB, 1600, .inl xF0))] H → va_D A [(a0, .inr (10, [.ref a1, .int i0, .int i1, .int i2, .int i3, .int i4, .int i5, .int i6])), (a1, .inl (cB, 1600, .inl xF0))] → va_S A s.heap H locs → lv_has ls 3 [(0, .ref a0), (1, .int p0), (2, .int w2_1)] → W p l e ({ frames := 0, cells := 0, slots := 0, locals := 0 } : Room) s m ([.ref a0, .int p0] : List Value).toArray below meth c H locs 0 0 Q (F0 m 2 ls []) := by
    intro d
    induction d with
    | zero =>
      intro H locs ls w2_1 hr_w2_1 hm hP hD hS hl
      omega
    | succ d ih1 =>
      intro H locs ls w2_1 hr_w2_1 hm hP hD hS hl
      refine lv_iload_n hx hb dX10_behindLetters_2 rfl (lv_at hl 2 rfl) ?_
      refine lv_aload_n hx hb dX10_behindLetters_3 rfl (lv_at hl 0 rfl) ?_
      refine va_get (D := (dC, dI)) (ci := 10) (v := .int i0) (C := RX10) (T := TX10) (N := 8) hx hb hwd inlX10 hown hK hP 0 rfl rfl 1 (by decide) (hwd _ kr6_22) (fun _ h9 => h9) rfl dX10_behindLetters_4 ?_
      refine lv_icmp_ge (tgt := 38) hx hb dX10_behindLetters_7 (by decide) (fun c29 => ?_) (fun c29 => ?_)
      · rw [ki_le] at c29
        refine lv_iload_n hx hb dX10_behindLetters_38 rfl (lv_at hl 2 rfl) ?_
        have hP9 := hP.sub (ws' := [(a0, .inr (10, [.ref a1, .int i0, .int i1, .int i2, .int i3, .int i4, .int i5, .int i6])), (a1, .inl (cB, 1600, .inl xF0))]) [0, 1] rfl
        have hD9 := hD.sub (ws' := [(a0, .inr (10, [.ref a1, .int i0, .int i1, .int i2, .int i3, .int i4, .int i5, .int i6])), (a1, .inl (cB, 1600, .inl xF0))]) [0, 1] (by decide) rfl
        rw [hQ]
        exact W.iret (v := w2_1) hx hb hr (fun t ht hW => ⟨⟨w2_1, (), rfl, ⟨(show (0 : Int) ≤ w2_1.toInt ∧ w2_1.toInt ≤ 1600 from ⟨by omega, by omega⟩), trivial⟩, (by rw [ht]; exact hP9), hD9⟩, hS.F ht⟩) hS.2.2 dX10_behindLetters_39
      · rw [ki_le] at c29
        refine lv_aload_n hx hb dX10_behindLetters_10 rfl (lv_at hl 0 rfl) ?_
        refine va_get (D := (dC, dI)) (ci := 10) (v := .ref a1) (C := RX10) (T := TX10) (N := 8) hx hb hwd inlX10 hown hK hP 0 rfl rfl 0 (by decide) (hwd _ kr6_21) (fun _ h9 => h9) rfl dX10_behindLetters_11 ?_
        refine lv_iload_n hx hb dX10_behindLetters_14 rfl (lv_at hl 2 rfl) ?_
        have h30 : vp_in w2_1 1600 := (vp_of (by omega) (by omega))
        refine va_bald hx hb hK hP 1 2 rfl rfl h30 dX10_behindLetters_15 ?_
        refine lv_topi (fun x31 ex31 => ?_)
        refine lv_bipush (v := 97) hx hb dX10_behindLetters_16 (by decide) ?_
        refine lv_icmp_lt (tgt := 38) hx hb dX10_behindLetters_18 (by decide) (fun c32 => ?_) (fun c32 => ?_)
        · rw [ki_lt] at c32
          refine lv_iload_n hx hb dX10_behindLetters_38 rfl (lv_at hl 2 rfl) ?_
          have hP9 := hP.sub (ws' := [(a0, .inr (10, [.ref a1, .int i0, .int i1, .int i2, .int i3, .int i4, .int i5, .int i6])), (a1, .inl (cB, 1600, .inl xF0))]) [0, 1] rfl
          have hD9 := hD.sub (ws' := [(a0, .inr (10, [.ref a1, .int i0, .int i1, .int i2, .int i3, .int i4, .int i5, .int i6])), (a1, .inl (cB, 1600, .inl xF0))]) [0, 1] (by decide) rfl
          rw [hQ]
          exact W.iret (v := w2_1) hx hb hr (fun t ht hW => ⟨⟨w2_1, (), rfl, ⟨(show (0 : Int) ≤ w2_1.toInt ∧ w2_1.toInt ≤ 1600 from ⟨by omega, by omega⟩), trivial⟩, (by rw [ht]; exact hP9), hD9⟩, hS.F ht⟩) hS.2.2 dX10_behindLetters_39
        · rw [ki_lt] at c32
          refine lv_aload_n hx hb dX10_behindLetters_21 rfl (lv_at hl 0 rfl) ?_
          refine va_get (D := (dC, dI)) (ci := 10) (v := .ref a1) (C := RX10) (T := TX10) (N := 8) hx hb hwd inlX10 hown hK hP 0 rfl rfl 0 (by decide) (hwd _ kr6_21) (fun _ h9 => h9) rfl dX10_behindLetters_22 ?_
          refine lv_iload_n hx hb dX10_behindLetters_25 rfl (lv_at hl 2 rfl) ?_
          have h33 : vp_in w2_1 1600 := (vp_of (by omega) (by omega))
          refine va_bald hx hb hK hP 1 2 rfl rfl h33 dX10_behindLetters_26 ?_
          refine lv_topi (nm_r (e' := x31) ex31.symm ?_)
          refine lv_bipush (v := 122) hx hb dX10_behindLetters_27 (by decide) ?_
          refine lv_icmp_gt (tgt := 38) hx hb dX10_behindLetters_29 (by decide) (fun c34 => ?_) (fun c34 => ?_)
          · rw [ki_lt] at c34
            refine lv_iload_n hx hb dX10_behindLetters_38 rfl (lv_at hl 2 rfl) ?_
            have hP9 := hP.sub (ws' := [(a0, .inr (10, [.ref a1, .int i0, .int i1, .int i2, .int i3, .int i4, .int i5, .int i6])), (a1, .inl (cB, 1600, .inl xF0))]) [0, 1] rfl
            have hD9 := hD.sub (ws' := [(a0, .inr (10, [.ref a1, .int i0, .int i1, .int i2, .int i3, .int i4, .int i5, .int i6])), (a1, .inl (cB, 1600, .inl xF0))]) [0, 1] (by decide) rfl
            rw [hQ]
            exact W.iret (v := w2_1) hx hb hr (fun t ht hW => ⟨⟨w2_1, (), rfl, ⟨(show (0 : Int) ≤ w2_1.toInt ∧ w2_1.toInt ≤ 1600 from ⟨by omega, by omega⟩), trivial⟩, (by rw [ht]; exact hP9), hD9⟩, hS.F ht⟩) hS.2.2 dX10_behindLetters_39
          · rw [ki_lt] at c34
            obtain ⟨x35, ex35⟩ : ∃ y : Int32, y = w2_1 + 1 := ⟨_, rfl⟩
            refine lv_iinc (v := x35) (lv' := [(2, .int x35), (0, .ref a0), (1, .int p0)]) hx hb dX10_behindLetters_32 hl (k := 2) rfl (by rw [ex35]; rfl) (by decide) rfl (fun ls hl => ?_)
            have tx35 := ia_add (a := w2_1) (b := (1 : Int32)) (by omega) (by omega)
            rw [← ex35] at tx35
            refine lv_goto (tgt := 2) hx hb dX10_behindLetters_35 (by decide) ?_
            exact ih1 _ _ ls x35 (show (0 : Int) ≤ x35.toInt ∧ x35.toInt ≤ 1600 from ⟨by omega, by omega⟩) (by omega) (hP.sub (ws' := [(a0, .inr (10, [.ref a1, .int i0, .int i1, .int i2, .int i3, .int i4, .int i5, .int i6])), (a1, .inl (cB, 1600, .inl xF0))]) [0, 1] rfl) (hD.sub (ws' := [(a0, .inr (10, [.ref a1, .int i0, .int i1, .int i2, .int i3, .int i4, .int i5, .int i6])), (a1, .inl (cB, 1600, .inl xF0))]) [0, 1] (by decide) rfl) hS (lv_sub hl [1, 2, 0] rfl)
  exact lp1 _ _ _ ls p0 (show (0 : Int) ≤ p0.toInt ∧ p0.toInt ≤ 1600 from p_3) (Nat.lt_succ_self _) (hP.sub (ws' := [(a0, .inr (10, [.ref a1, .int i0, .int i1, .int i2, .int i3, .int i4, .int i5, .int i6])), (a1, .inl (cB, 1600, .inl xF0))]) [0, 1] rfl) (hD.sub (ws' := [(a0, .inr (10, [.ref a1, .int i0, .int i1, .int i2, .int i3, .int i4, .int i5, .int i6])), (a1, .inl (cB, 1600, .inl xF0))]) [0, 1] (by decide) rfl) hS (lv_sub hl [1, 2, 0] rfl)
theorem dX10_behindDigits_0 : decode cX10_behindDigits 0 = .ok (.iload_n 1, 1) := by decide +kernel
theorem dX10_behindDigits_1 : decode cX10_behindDigits 1 = .ok (.istore_n 2, 1) := by decide +kernel
theorem dX10_behindDigits_2 : decode cX10_behindDigits 2 = .ok (.aload_n 0, 1) := by decide +kernel
theorem dX10_behindDigits_3 : decode cX10_behindDigits 3 = .ok (.iconst 0, 1) := by decide +kernel
theorem dX10_behindDigits_4 : decode cX10_behindDigits 4 = .ok (.putfield 78, 3) := by decide +kernel
theorem dX10_behindDigits_7 : decode cX10_behindDigits 7 = .ok (.iload_n 2, 1) := by decide +kernel
theorem dX10_behindDigits_8 : decode cX10_behindDigits 8 = .ok (.aload_n 0, 1) := by decide +kernel
theorem dX10_behindDigits_9 : decode cX10_behindDigits 9 = .ok (.getfield 19, 3) := by decide +kernel
theorem dX10_behindDigits_12 : decode cX10_behindDigits 12 = .ok (.if_icmp .ge 61, 3) := by decide +kernel
theorem dX10_behindDigits_15 : decode cX10_behindDigits 15 = .ok (.aload_n 0, 1) := by decide +kernel
theorem dX10_behindDigits_16 : decode cX10_behindDigits 16 = .ok (.getfield 11, 3) := by decide +kernel
theorem dX10_behindDigits_19 : decode cX10_behindDigits 19 = .ok (.iload_n 2, 1) := by decide +kernel
theorem dX10_behindDigits_20 : decode cX10_behindDigits 20 = .ok (.baload, 1) := by decide +kernel
theorem dX10_behindDigits_21 : decode cX10_behindDigits 21 = .ok (.bipush 48, 2) := by decide +kernel
theorem dX10_behindDigits_23 : decode cX10_behindDigits 23 = .ok (.if_icmp .lt 50, 3) := by decide +kernel
theorem dX10_behindDigits_26 : decode cX10_behindDigits 26 = .ok (.aload_n 0, 1) := by decide +kernel
theorem dX10_behindDigits_27 : decode cX10_behindDigits 27 = .ok (.getfield 11, 3) := by decide +kernel
theorem dX10_behindDigits_30 : decode cX10_behindDigits 30 = .ok (.iload_n 2, 1) := by decide +kernel
theorem dX10_behindDigits_31 : decode cX10_behindDigits 31 = .ok (.baload, 1) := by decide +kernel
theorem dX10_behindDigits_32 : decode cX10_behindDigits 32 = .ok (.bipush 57, 2) := by decide +kernel
theorem dX10_behindDigits_34 : decode cX10_behindDigits 34 = .ok (.if_icmp .gt 39, 3) := by decide +kernel
theorem dX10_behindDigits_37 : decode cX10_behindDigits 37 = .ok (.aload_n 0, 1) := by decide +kernel
theorem dX10_behindDigits_38 : decode cX10_behindDigits 38 = .ok (.getfield 78, 3) := by decide +kernel
theorem dX10_behindDigits_41 : decode cX10_behindDigits 41 = .ok (.ldc 81, 2) := by decide +kernel
theorem dX10_behindDigits_43 : decode cX10_behindDigits 43 = .ok (.if_icmp .ge 24, 3) := by decide +kernel
theorem dX10_behindDigits_46 : decode cX10_behindDigits 46 = .ok (.aload_n 0, 1) := by decide +kernel
theorem dX10_behindDigits_47 : decode cX10_behindDigits 47 = .ok (.aload_n 0, 1) := by decide +kernel
theorem dX10_behindDigits_48 : decode cX10_behindDigits 48 = .ok (.getfield 78, 3) := by decide +kernel
theorem dX10_behindDigits_51 : decode cX10_behindDigits 51 = .ok (.bipush 10, 2) := by decide +kernel
theorem dX10_behindDigits_53 : decode cX10_behindDigits 53 = .ok (.imul, 1) := by decide +kernel
theorem dX10_behindDigits_54 : decode cX10_behindDigits 54 = .ok (.aload_n 0, 1) := by decide +kernel
theorem dX10_behindDigits_55 : decode cX10_behindDigits 55 = .ok (.getfield 11, 3) := by decide +kernel
theorem dX10_behindDigits_58 : decode cX10_behindDigits 58 = .ok (.iload_n 2, 1) := by decide +kernel
theorem dX10_behindDigits_59 : decode cX10_behindDigits 59 = .ok (.baload, 1) := by decide +kernel
theorem dX10_behindDigits_60 : decode cX10_behindDigits 60 = .ok (.iadd, 1) := by decide +kernel
theorem dX10_behindDigits_61 : decode cX10_behindDigits 61 = .ok (.bipush 48, 2) := by decide +kernel
theorem dX10_behindDigits_63 : decode cX10_behindDigits 63 = .ok (.isub, 1) := by decide +kernel
theorem dX10_behindDigits_64 : decode cX10_behindDigits 64 = .ok (.putfield 78, 3) := by decide +kernel
theorem dX10_behindDigits_67 : decode cX10_behindDigits 67 = .ok (.iinc 2 1, 3) := by decide +kernel
theorem dX10_behindDigits_70 : decode cX10_behindDigits 70 = .ok (.goto (-63), 3) := by decide +kernel
theorem dX10_behindDigits_73 : decode cX10_behindDigits 73 = .ok (.iload_n 2, 1) := by decide +kernel
theorem dX10_behindDigits_74 : decode cX10_behindDigits 74 = .ok (.ireturn, 1) := by decide +kernel
set_option maxHeartbeats 4000000 in
set_option maxRecDepth 100000 in
theorem s_X10_behindDigits (l : Launch) (dC : Nat → ClassId) (dI : Nat → Nat → Nat) (cI cZ cB cJ cM cG : ClassId) (a0 a1 : Nat) (i0 i1 i2 i3 i4 i5 i6 : Int32) (xF0 : Nat → Int32) (p0 : Int32) (sz : Nat) (p_0 : (0 : Int) ≤ i0.toInt ∧ i0.toInt ≤ 1600) (p_1 : (0 : Int) ≤ i4.toInt ∧ i4.toInt ≤ 1600) (p_2 : (0 : Int) ≤ i5.toInt ∧ i5.toInt ≤ 1600) (p_3 : (0 : Int) ≤ p0.toInt ∧ p0.toInt ≤ 1600) : Met l yX10_behindDigits (kw yX10_behindDigits cX10_behindDigits 3 (some .int)) ({ frames := 0, cells := 0, slots := 0, locals := 0 } : Room) (va_Pc [.ref a0, .int p0] (kPre dC dI [(cI, .int), (cZ, .boolean), (cB, .byte), (cJ, .long), (cM, .object RX2), (cG, .array .int)] [(a0, .inr (10, [.ref a1, .int i0, .int i1, .int i2, .int i3, .int i4, .int i5, .int i6])), (a1, .inl (cB, 1600, .inl xF0))] sz)) (va_Qi (fun (r : Int32) (u9 : (Nat → Int32) × (Nat → Nat → Int32) × (Nat → Nat → Int64)) => ((0 : Int) ≤ r.toInt ∧ r.toInt ≤ 1600) ∧ True) (fun u9 t => va_P (dC, dI) vwCl [(a0, .inr (10, [.ref a1, .int i0, .int i1, .int i2, .int i3, .int i4, .int i5, .int (u9.1 0)])), (a1, .inl (cB, 1600, .inl xF0))] t.heap ∧ va_D (va_A [(a0, .inr (10, [.ref a1, .int i0, .int i1, .int i2, .int i3, .int i4, .int i5, .int i6])), (a1, .inl (cB, 1600, .inl xF0))] sz) [(a0, .inr (10, [.ref a1, .int i0, .int i1, .int i2, .int i3, .int i4, .int i5, .int (u9.1 0)])), (a1, .inl (cB, 1600, .inl xF0))]) (va_A [(a0, .inr (10, [.ref a1, .int i0, .int i1, .int i2, .int i3, .int i4, .int i5, .int i6])), (a1, .inl (cB, 1600, .inl xF0))] sz)) 0 0 (va_A [(a0, .inr (10, [.ref a1, .int i0, .int i1, .int i2, .int i3, .int i4, .int i5, .int i6])), (a1, .inl (cB, 1600, .inl xF0))] sz) := by
  refine kEnter (by decide) (Nat.le_of_ble_eq_true rfl) ?_
  intro p e s m below meth c ls hx hb hr hml hown hlocks hin hwd hsz hP hK hD hl
  subst hsz
  generalize hAe : va_A [(a0, .inr (10, [.ref a1, .int i0, .int i1, .int i2, .int i3, .int i4, .int i5, .int i6])), (a1, .inl (cB, 1600, .inl xF0))] s.heap.size = A at hD ⊢
  have hA : ∀ q : Nat, s.heap.size ≤ q → A q := fun q h => by rw [← hAe]; exact Or.inr h
  have hS : va_S A s.heap s.heap [] := va_S.rf
  have hl : lv_has ls 3 [(0, .ref a0), (1, .int p0)] := hl
  obtain ⟨Q, hQ⟩ : ∃ Q, Q = MQ below (va_Qi (fun (r : Int32) (u9 : (Nat → Int32) × (Nat → Nat → Int32) × (Nat → Nat → Int64)) => ((0 : Int) ≤ r.toInt ∧ r.toInt ≤ 1600) ∧ True) (fun u9 t => va_P (dC, dI) vwCl [(a0, .inr (10, [.ref a1, .int i0, .int i1, .int i2, .int i3, .int i4, .int i5, .int (u9.1 0)])), (a1, .inl (cB, 1600, .inl xF0))] t.heap ∧ va_D A [(a0, .inr (10, [.ref a1, .int i0, .int i1, .int i2, .int i3, .int i4, .int i5, .int (u9.1 0)])), (a1, .inl (cB, 1600, .inl xF0))]) A) ([.ref a0, .int p0] : List Value).toArray s 0 0 A := ⟨_, rfl⟩
  rw [← hQ]
  have k0 : (0 : Int32).toInt = 0 := by decide
  have k1 : (1 : Int32).toInt = 1 := by decide
  have k10 : (10 : Int32).toInt = 10 := by decide
  have k48 : (48 : Int32).toInt = 48 := by decide
  have k57 : (57 : Int32).toInt = 57 := by decide
  have k1000000 : (1000000 : Int32).toInt = 1000000 := by decide
  refine lv_iload_n hx hb dX10_behindDigits_0 rfl (lv_at hl 1 rfl) ?_
  refine lv_istore_n (lv' := [(2, .int p0), (0, .ref a0), (1, .int p0)]) hx hb dX10_behindDigits_1 rfl hl (by decide) rfl (fun ls hl => ?_)
  refine lv_aload_n hx hb dX10_behindDigits_2 rfl (lv_at hl 1 rfl) ?_
  refine lv_iconst (v := 0) hx hb dX10_behindDigits_3 (by decide) ?_
  refine va_put (D := (dC, dI)) (ci := 10) (v := .int 0) (ty := .int) (C := RX10) (T := TX10) (N := 8) hx hb hwd inlX10 tyX10 tyX10_ok nmX10 hown hK hP hD hS 0 rfl rfl 7 (by decide) (hwd _ kr7_8) (fun _ h9 => h9) rfl (by decide +kernel) rfl rfl (Nat.le_of_ble_eq_true rfl) dX10_behindDigits_4 (fun H locs hP hD hS => ?_)
  replace hP : va_P (dC, dI) vwCl [(a0, .inr (10, [.ref a1, .int i0, .int i1, .int i2, .int i3, .int i4, .int i5, .int 0])), (a1, .inl (cB, 1600, .inl xF0))] H := hP
  replace hD : va_D A [(a0, .inr (10, [.ref a1, .int i0, .int i1, .int i2, .int i3, .int i4, .int i5, .int 0])), (a1, .inl (cB, 1600, .inl xF0))] := hD
  have lp1 : ∀ (d : Nat), ∀ (H : Heap) (locs : List Loc) (ls : Array Slot) (w2_1 : Int32) (v1_1 : Int32), ((0 : Int) ≤ w2_1.toInt ∧ w2_1.toInt ≤ 1600) → ((0 : Int) ≤ v1_1.toInt ∧ v1_1.toInt ≤ 2147483647) → (1600 - w2_1.toInt).toNat < d → va_P (dC, dI) vwCl [(a0, .inr (10, [.ref a1, .int i0, .int i1, .int i2, .int i3, .int i4, .int i5, .int v1_1])), (a1, .inl (cB, 1600, .inl xF0))] H → va_D A [(a0, .inr (10, [.ref a1, .int i0, .int i1, .int i2, .int i3, .int i4, .int i5, .int v1_1])), (a1, .inl (cB, 1600, .inl xF0))] → va_S A s.heap H locs → lv_has ls 3 [(0, .ref a0), (1, .int p0), (2, .int w2_1)] → W p l e ({ frames := 0, cells := 0, slots := 0, locals := 0 } : Room) s m ([.ref a0, .int p0] : List Value).toArray below meth c H locs 0 0 Q (F0 m 7 ls []) := by
    intro d
    induction d with
    | zero =>
      intro H locs ls w2_1 v1_1 hr_w2_1 hr_v1_1 hm hP hD hS hl
      omega
    | succ d ih1 =>
      intro H locs ls w2_1 v1_1 hr_w2_1 hr_v1_1 hm hP hD hS hl
      refine lv_iload_n hx hb dX10_behindDigits_7 rfl (lv_at hl 2 rfl) ?_
      refine lv_aload_n hx hb dX10_behindDigits_8 rfl (lv_at hl 0 rfl) ?_
      refine va_get (D := (dC, dI)) (ci := 10) (v := .int i0) (C := RX10) (T := TX10) (N := 8) hx hb hwd inlX10 hown hK hP 0 rfl rfl 1 (by decide) (hwd _ kr6_22) (fun _ h9 => h9) rfl dX10_behindDigits_9 ?_
      refine lv_icmp_ge (tgt := 73) hx hb dX10_behindDigits_12 (by decide) (fun c75 => ?_) (fun c75 => ?_)
      · rw [ki_le] at c75
        refine lv_iload_n hx hb dX10_behindDigits_73 rfl (lv_at hl 2 rfl) ?_
        have hP9 := hP.sub (ws' := [(a0, .inr (10, [.ref a1, .int i0, .int i1, .int i2, .int i3, .int i4, .int i5, .int v1_1])), (a1, .inl (cB, 1600, .inl xF0))]) [0, 1] rfl
        have hD9 := hD.sub (ws' := [(a0, .inr (10, [.ref a1, .int i0, .int i1, .int i2, .int i3, .int i4, .int i5, .int v1_1])), (a1, .inl (cB, 1600, .inl xF0))]) [0, 1] (by decide) rfl
        rw [hQ]
        exact W.iret (v := w2_1) hx hb hr (fun t ht hW => ⟨⟨w2_1, (pickG 0 [v1_1], pickG (fun _ => 0) [], pickG (fun _ => 0) []), rfl, ⟨(show (0 : Int) ≤ w2_1.toInt ∧ w2_1.toInt ≤ 1600 from ⟨by omega, by omega⟩), trivial⟩, (by rw [ht]; exact hP9), hD9⟩, hS.F ht⟩) hS.2.2 dX10_behindDigits_74
      · rw [ki_le] at c75
        refine lv_aload_n hx hb dX10_behindDigits_15 rfl (lv_at hl 0 rfl) ?_
        refine va_get (D := (dC, dI)) (ci := 10) (v := .ref a1) (C := RX10) (T := TX10) (N := 8) hx hb hwd inlX10 hown hK hP 0 rfl rfl 0 (by decide) (hwd _ kr6_21) (fun _ h9 => h9) rfl dX10_behindDigits_16 ?_
        refine lv_iload_n hx hb dX10_behindDigits_19 rfl (lv_at hl 2 rfl) ?_
        have h76 : vp_in w2_1 1600 := (vp_of (by omega) (by omega))
        refine va_bald hx hb hK hP 1 2 rfl rfl h76 dX10_behindDigits_20 ?_
        refine lv_topi (fun x77 ex77 => ?_)
        refine lv_bipush (v := 48) hx hb dX10_behindDigits_21 (by decide) ?_
        refine lv_icmp_lt (tgt := 73) hx hb dX10_behindDigits_23 (by decide) (fun c78 => ?_) (fun c78 => ?_)
        · rw [ki_lt] at c78
          refine lv_iload_n hx hb dX10_behindDigits_73 rfl (lv_at hl 2 rfl) ?_
          have hP9 := hP.sub (ws' := [(a0, .inr (10, [.ref a1, .int i0, .int i1, .int i2, .int i3, .int i4, .int i5, .int v1_1])), (a1, .inl (cB, 1600, .inl xF0))]) [0, 1] rfl
          have hD9 := hD.sub (ws' := [(a0, .inr (10, [.ref a1, .int i0, .int i1, .int i2, .int i3, .int i4, .int i5, .int v1_1])), (a1, .inl (cB, 1600, .inl xF0))]) [0, 1] (by decide) rfl
          rw [hQ]
          exact W.iret (v := w2_1) hx hb hr (fun t ht hW => ⟨⟨w2_1, (pickG 0 [v1_1], pickG (fun _ => 0) [], pickG (fun _ => 0) []), rfl, ⟨(show (0 : Int) ≤ w2_1.toInt ∧ w2_1.toInt ≤ 1600 from ⟨by omega, by omega⟩), trivial⟩, (by rw [ht]; exact hP9), hD9⟩, hS.F ht⟩) hS.2.2 dX10_behindDigits_74
        · rw [ki_lt] at c78
          refine lv_aload_n hx hb dX10_behindDigits_26 rfl (lv_at hl 0 rfl) ?_
          refine va_get (D := (dC, dI)) (ci := 10) (v := .ref a1) (C := RX10) (T := TX10) (N := 8) hx hb hwd inlX10 hown hK hP 0 rfl rfl 0 (by decide) (hwd _ kr6_21) (fun _ h9 => h9) rfl dX10_behindDigits_27 ?_
          refine lv_iload_n hx hb dX10_behindDigits_30 rfl (lv_at hl 2 rfl) ?_
          have h79 : vp_in w2_1 1600 := (vp_of (by omega) (by omega))
          refine va_bald hx hb hK hP 1 2 rfl rfl h79 dX10_behindDigits_31 ?_
          refine lv_topi (nm_r (e' := x77) ex77.symm ?_)
          refine lv_bipush (v := 57) hx hb dX10_behindDigits_32 (by decide) ?_
          refine lv_icmp_gt (tgt := 73) hx hb dX10_behindDigits_34 (by decide) (fun c80 => ?_) (fun c80 => ?_)
          · rw [ki_lt] at c80
            refine lv_iload_n hx hb dX10_behindDigits_73 rfl (lv_at hl 2 rfl) ?_
            have hP9 := hP.sub (ws' := [(a0, .inr (10, [.ref a1, .int i0, .int i1, .int i2, .int i3, .int i4, .int i5, .int v1_1])), (a1, .inl (cB, 1600, .inl xF0))]) [0, 1] rfl
            have hD9 := hD.sub (ws' := [(a0, .inr (10, [.ref a1, .int i0, .int i1, .int i2, .int i3, .int i4, .int i5, .int v1_1])), (a1, .inl (cB, 1600, .inl xF0))]) [0, 1] (by decide) rfl
            rw [hQ]
            exact W.iret (v := w2_1) hx hb hr (fun t ht hW => ⟨⟨w2_1, (pickG 0 [v1_1], pickG (fun _ => 0) [], pickG (fun _ => 0) []), rfl, ⟨(show (0 : Int) ≤ w2_1.toInt ∧ w2_1.toInt ≤ 1600 from ⟨by omega, by omega⟩), trivial⟩, (by rw [ht]; exact hP9), hD9⟩, hS.F ht⟩) hS.2.2 dX10_behindDigits_74
          · rw [ki_lt] at c80
            refine lv_aload_n hx hb dX10_behindDigits_37 rfl (lv_at hl 0 rfl) ?_
            refine va_get (D := (dC, dI)) (ci := 10) (v := .int v1_1) (C := RX10) (T := TX10) (N := 8) hx hb hwd inlX10 hown hK hP 0 rfl rfl 7 (by decide) (hwd _ kr7_8) (fun _ h9 => h9) rfl dX10_behindDigits_38 ?_
            refine lv_ldc (v := 1000000) hx hb hown (hwd _ kr18_23) dX10_behindDigits_41 ?_
            refine lv_icmp_ge (tgt := 67) hx hb dX10_behindDigits_43 (by decide) (fun c81 => ?_) (fun c81 => ?_)
            · rw [ki_le] at c81
              obtain ⟨x82, ex82⟩ : ∃ y : Int32, y = w2_1 + 1 := ⟨_, rfl⟩
              refine lv_iinc (v := x82) (lv' := [(2, .int x82), (0, .ref a0), (1, .int p0)]) hx hb dX10_behindDigits_67 hl (k := 2) rfl (by rw [ex82]; rfl) (by decide) rfl (fun ls hl => ?_)
              have tx82 := ia_add (a := w2_1) (b := (1 : Int32)) (by omega) (by omega)
              rw [← ex82] at tx82
              refine lv_goto (tgt := 7) hx hb dX10_behindDigits_70 (by decide) ?_
              exact ih1 _ _ ls x82 v1_1 (show (0 : Int) ≤ x82.toInt ∧ x82.toInt ≤ 1600 from ⟨by omega, by omega⟩) (show (0 : Int) ≤ v1_1.toInt ∧ v1_1.toInt ≤ 2147483647 from ⟨by omega, i32_hi⟩) (by omega) (hP.sub (ws' := [(a0, .inr (10, [.ref a1, .int i0, .int i1, .int i2, .int i3, .int i4, .int i5, .int v1_1])), (a1, .inl (cB, 1600, .inl xF0))]) [0, 1] rfl) (hD.sub (ws' := [(a0, .inr (10, [.ref a1, .int i0, .int i1, .int i2, .int i3, .int i4, .int i5, .int v1_1])), (a1, .inl (cB, 1600, .inl xF0))]) [0, 1] (by decide) rfl) hS (lv_sub hl [1, 2, 0] rfl)
            · rw [ki_le] at c81
              refine lv_aload_n hx hb dX10_behindDigits_46 rfl (lv_at hl 0 rfl) ?_
              refine lv_aload_n hx hb dX10_behindDigits_47 rfl (lv_at hl 0 rfl) ?_
              refine va_get (D := (dC, dI)) (ci := 10) (v := .int v1_1) (C := RX10) (T := TX10) (N := 8) hx hb hwd inlX10 hown hK hP 0 rfl rfl 7 (by decide) (hwd _ kr7_8) (fun _ h9 => h9) rfl dX10_behindDigits_48 ?_
              refine lv_bipush (v := 10) hx hb dX10_behindDigits_51 (by decide) ?_
              refine lv_imul hx hb dX10_behindDigits_53 ?_
              refine lv_topi (fun x83 ex83 => ?_)
              have tx83 := ia_mulr (a := v1_1) (b := (10 : Int32)) 10 (by decide) (by omega) (by omega)
              rw [← ex83] at tx83
              refine lv_aload_n hx hb dX10_behindDigits_54 rfl (lv_at hl 0 rfl) ?_
              refine va_get (D := (dC, dI)) (ci := 10) (v := .ref a1) (C := RX10) (T := TX10) (N := 8) hx hb hwd inlX10 hown hK hP 0 rfl rfl 0 (by decide) (hwd _ kr6_21) (fun _ h9 => h9) rfl dX10_behindDigits_55 ?_
              refine lv_iload_n hx hb dX10_behindDigits_58 rfl (lv_at hl 2 rfl) ?_
              have h84 : vp_in w2_1 1600 := (vp_of (by omega) (by omega))
              refine va_bald hx hb hK hP 1 2 rfl rfl h84 dX10_behindDigits_59 ?_
              refine lv_topi (nm_r (e' := x77) ex77.symm ?_)
              refine lv_iadd hx hb dX10_behindDigits_60 ?_
              refine lv_topi (fun x85 ex85 => ?_)
              have tx85 := ia_add (a := x83) (b := x77) (by omega) (by omega)
              rw [← ex85] at tx85
              refine lv_bipush (v := 48) hx hb dX10_behindDigits_61 (by decide) ?_
              refine lv_isub hx hb dX10_behindDigits_63 ?_
              refine lv_topi (fun x86 ex86 => ?_)
              have tx86 := ia_sub (a := x85) (b := (48 : Int32)) (by omega) (by omega)
              rw [← ex86] at tx86
              refine va_put (D := (dC, dI)) (ci := 10) (v := .int x86) (ty := .int) (C := RX10) (T := TX10) (N := 8) hx hb hwd inlX10 tyX10 tyX10_ok nmX10 hown hK hP hD hS 0 rfl rfl 7 (by decide) (hwd _ kr7_8) (fun _ h9 => h9) rfl (by decide +kernel) rfl rfl (Nat.le_of_ble_eq_true rfl) dX10_behindDigits_64 (fun H locs hP hD hS => ?_)
              replace hP : va_P (dC, dI) vwCl [(a0, .inr (10, [.ref a1, .int i0, .int i1, .int i2, .int i3, .int i4, .int i5, .int x86])), (a1, .inl (cB, 1600, .inl xF0))] H := hP
              replace hD : va_D A [(a0, .inr (10, [.ref a1, .int i0, .int i1, .int i2, .int i3, .int i4, .int i5, .int x86])), (a1, .inl (cB, 1600, .inl xF0))] := hD
              obtain ⟨x87, ex87⟩ : ∃ y : Int32, y = w2_1 + 1 := ⟨_, rfl⟩
              refine lv_iinc (v := x87) (lv' := [(2, .int x87), (0, .ref a0), (1, .int p0)]) hx hb dX10_behindDigits_67 hl (k := 2) rfl (by rw [ex87]; rfl) (by decide) rfl (fun ls hl => ?_)
              have tx87 := ia_add (a := w2_1) (b := (1 : Int32)) (by omega) (by omega)
              rw [← ex87] at tx87
              refine lv_goto (tgt := 7) hx hb dX10_behindDigits_70 (by decide) ?_
              exact ih1 _ _ ls x87 x86 (show (0 : Int) ≤ x87.toInt ∧ x87.toInt ≤ 1600 from ⟨by omega, by omega⟩) (show (0 : Int) ≤ x86.toInt ∧ x86.toInt ≤ 2147483647 from ⟨by omega, i32_hi⟩) (by omega) (hP.sub (ws' := [(a0, .inr (10, [.ref a1, .int i0, .int i1, .int i2, .int i3, .int i4, .int i5, .int x86])), (a1, .inl (cB, 1600, .inl xF0))]) [0, 1] rfl) (hD.sub (ws' := [(a0, .inr (10, [.ref a1, .int i0, .int i1, .int i2, .int i3, .int i4, .int i5, .int x86])), (a1, .inl (cB, 1600, .inl xF0))]) [0, 1] (by decide) rfl) hS (lv_sub hl [1, 2, 0] rfl)
  exact lp1 _ _ _ ls p0 (0) (show (0 : Int) ≤ p0.toInt ∧ p0.toInt ≤ 1600 from p_3) (show (0 : Int) ≤ (0 : Int32).toInt ∧ (0 : Int32).toInt ≤ 2147483647 from ⟨by omega, i32_hi⟩) (Nat.lt_succ_self _) (hP.sub (ws' := [(a0, .inr (10, [.ref a1, .int i0, .int i1, .int i2, .int i3, .int i4, .int i5, .int 0])), (a1, .inl (cB, 1600, .inl xF0))]) [0, 1] rfl) (hD.sub (ws' := [(a0, .inr (10, [.ref a1, .int i0, .int i1, .int i2, .int i3, .int i4, .int i5, .int 0])), (a1, .inl (cB, 1600, .inl xF0))]) [0, 1] (by decide) rfl) hS (lv_sub hl [1, 2, 0] rfl)
theorem dX10_isLetter_0 : decode cX10_isLetter 0 = .ok (.iload_n 0, 1) := by decide +kernel
theorem dX10_isLetter_1 : decode cX10_isLetter 1 = .ok (.bipush 97, 2) := by decide +kernel
theorem dX10_isLetter_3 : decode cX10_isLetter 3 = .ok (.if_icmp .lt 13, 3) := by decide +kernel
theorem dX10_isLetter_6 : decode cX10_isLetter 6 = .ok (.iload_n 0, 1) := by decide +kernel
theorem dX10_isLetter_7 : decode cX10_isLetter 7 = .ok (.bipush 122, 2) := by decide +kernel
theorem dX10_isLetter_9 : decode cX10_isLetter 9 = .ok (.if_icmp .gt 7, 3) := by decide +kernel
theorem dX10_isLetter_12 : decode cX10_isLetter 12 = .ok (.iconst 1, 1) := by decide +kernel
theorem dX10_isLetter_13 : decode cX10_isLetter 13 = .ok (.goto 4, 3) := by decide +kernel
theorem dX10_isLetter_16 : decode cX10_isLetter 16 = .ok (.iconst 0, 1) := by decide +kernel
theorem dX10_isLetter_17 : decode cX10_isLetter 17 = .ok (.ireturn, 1) := by decide +kernel
set_option maxHeartbeats 4000000 in
set_option maxRecDepth 100000 in
theorem s_X10_isLetter (l : Launch) (dC : Nat → ClassId) (dI : Nat → Nat → Nat) (cI cZ cB cJ cM cG : ClassId) (p0 : Int32) (sz : Nat) : Met l yX10_isLetter (kw yX10_isLetter cX10_isLetter 1 (some .boolean)) ({ frames := 0, cells := 0, slots := 0, locals := 0 } : Room) (va_Pc [.int p0] (kPre dC dI [(cI, .int), (cZ, .boolean), (cB, .byte), (cJ, .long), (cM, .object RX2), (cG, .array .int)] [] sz)) (va_Qi (fun (r : Int32) (u9 : Unit) => ((0 : Int) ≤ r.toInt ∧ r.toInt ≤ 1) ∧ True) (fun u9 t => va_P (dC, dI) vwCl [] t.heap ∧ va_D (va_A [] sz) []) (va_A [] sz)) 0 0 (va_A [] sz) := by
  refine kEnter (by decide) (Nat.le_of_ble_eq_true rfl) ?_
  intro p e s m below meth c ls hx hb hr hml hown hlocks hin hwd hsz hP hK hD hl
  subst hsz
  generalize hAe : va_A [] s.heap.size = A at hD ⊢
  have hA : ∀ q : Nat, s.heap.size ≤ q → A q := fun q h => by rw [← hAe]; exact Or.inr h
  have hS : va_S A s.heap s.heap [] := va_S.rf
  have hl : lv_has ls 1 [(0, .int p0)] := hl
  obtain ⟨Q, hQ⟩ : ∃ Q, Q = MQ below (va_Qi (fun (r : Int32) (u9 : Unit) => ((0 : Int) ≤ r.toInt ∧ r.toInt ≤ 1) ∧ True) (fun u9 t => va_P (dC, dI) vwCl [] t.heap ∧ va_D A []) A) ([.int p0] : List Value).toArray s 0 0 A := ⟨_, rfl⟩
  rw [← hQ]
  have k0 : (0 : Int32).toInt = 0 := by decide
  have k1 : (1 : Int32).toInt = 1 := by decide
  have k97 : (97 : Int32).toInt = 97 := by decide
  have k122 : (122 : Int32).toInt = 122 := by decide
  refine lv_iload_n hx hb dX10_isLetter_0 rfl (lv_at hl 0 rfl) ?_
  refine lv_bipush (v := 97) hx hb dX10_isLetter_1 (by decide) ?_
  refine lv_icmp_lt (tgt := 16) hx hb dX10_isLetter_3 (by decide) (fun c1 => ?_) (fun c1 => ?_)
  · rw [ki_lt] at c1
    refine lv_iconst (v := 0) hx hb dX10_isLetter_16 (by decide) ?_
    have hP9 := hP.sub (ws' := []) [] rfl
    have hD9 := hD.sub (ws' := []) [] (by decide) rfl
    rw [hQ]
    exact W.zret (v := 0) hx hb hr (by decide) (fun t ht hW => ⟨⟨0, (), rfl, ⟨(show (0 : Int) ≤ (0 : Int32).toInt ∧ (0 : Int32).toInt ≤ 1 from ⟨by omega, by omega⟩), trivial⟩, (by rw [ht]; exact hP9), hD9⟩, hS.F ht⟩) hS.2.2 dX10_isLetter_17
  · rw [ki_lt] at c1
    refine lv_iload_n hx hb dX10_isLetter_6 rfl (lv_at hl 0 rfl) ?_
    refine lv_bipush (v := 122) hx hb dX10_isLetter_7 (by decide) ?_
    refine lv_icmp_gt (tgt := 16) hx hb dX10_isLetter_9 (by decide) (fun c2 => ?_) (fun c2 => ?_)
    · rw [ki_lt] at c2
      refine lv_iconst (v := 0) hx hb dX10_isLetter_16 (by decide) ?_
      have hP9 := hP.sub (ws' := []) [] rfl
      have hD9 := hD.sub (ws' := []) [] (by decide) rfl
      rw [hQ]
      exact W.zret (v := 0) hx hb hr (by decide) (fun t ht hW => ⟨⟨0, (), rfl, ⟨(show (0 : Int) ≤ (0 : Int32).toInt ∧ (0 : Int32).toInt ≤ 1 from ⟨by omega, by omega⟩), trivial⟩, (by rw [ht]; exact hP9), hD9⟩, hS.F ht⟩) hS.2.2 dX10_isLetter_17
    · rw [ki_lt] at c2
      refine lv_iconst (v := 1) hx hb dX10_isLetter_12 (by decide) ?_
      refine lv_goto (tgt := 17) hx hb dX10_isLetter_13 (by decide) ?_
      have hP9 := hP.sub (ws' := []) [] rfl
      have hD9 := hD.sub (ws' := []) [] (by decide) rfl
      rw [hQ]
      exact W.zret (v := 1) hx hb hr (by decide) (fun t ht hW => ⟨⟨1, (), rfl, ⟨(show (0 : Int) ≤ (1 : Int32).toInt ∧ (1 : Int32).toInt ≤ 1 from ⟨by omega, by omega⟩), trivial⟩, (by rw [ht]; exact hP9), hD9⟩, hS.F ht⟩) hS.2.2 dX10_isLetter_17
theorem dX10_isDigit_0 : decode cX10_isDigit 0 = .ok (.iload_n 0, 1) := by decide +kernel
theorem dX10_isDigit_1 : decode cX10_isDigit 1 = .ok (.bipush 48, 2) := by decide +kernel
theorem dX10_isDigit_3 : decode cX10_isDigit 3 = .ok (.if_icmp .lt 13, 3) := by decide +kernel
theorem dX10_isDigit_6 : decode cX10_isDigit 6 = .ok (.iload_n 0, 1) := by decide +kernel
theorem dX10_isDigit_7 : decode cX10_isDigit 7 = .ok (.bipush 57, 2) := by decide +kernel
theorem dX10_isDigit_9 : decode cX10_isDigit 9 = .ok (.if_icmp .gt 7, 3) := by decide +kernel
theorem dX10_isDigit_12 : decode cX10_isDigit 12 = .ok (.iconst 1, 1) := by decide +kernel
theorem dX10_isDigit_13 : decode cX10_isDigit 13 = .ok (.goto 4, 3) := by decide +kernel
theorem dX10_isDigit_16 : decode cX10_isDigit 16 = .ok (.iconst 0, 1) := by decide +kernel
theorem dX10_isDigit_17 : decode cX10_isDigit 17 = .ok (.ireturn, 1) := by decide +kernel
set_option maxHeartbeats 4000000 in
set_option maxRecDepth 100000 in
theorem s_X10_isDigit (l : Launch) (dC : Nat → ClassId) (dI : Nat → Nat → Nat) (cI cZ cB cJ cM cG : ClassId) (p0 : Int32) (sz : Nat) : Met l yX10_isDigit (kw yX10_isDigit cX10_isDigit 1 (some .boolean)) ({ frames := 0, cells := 0, slots := 0, locals := 0 } : Room) (va_Pc [.int p0] (kPre dC dI [(cI, .int), (cZ, .boolean), (cB, .byte), (cJ, .long), (cM, .object RX2), (cG, .array .int)] [] sz)) (va_Qi (fun (r : Int32) (u9 : Unit) => ((0 : Int) ≤ r.toInt ∧ r.toInt ≤ 1) ∧ True) (fun u9 t => va_P (dC, dI) vwCl [] t.heap ∧ va_D (va_A [] sz) []) (va_A [] sz)) 0 0 (va_A [] sz) := by
  refine kEnter (by decide) (Nat.le_of_ble_eq_true rfl) ?_
  intro p e s m below meth c ls hx hb hr hml hown hlocks hin hwd hsz hP hK hD hl
  subst hsz
  generalize hAe : va_A [] s.heap.size = A at hD ⊢
  have hA : ∀ q : Nat, s.heap.size ≤ q → A q := fun q h => by rw [← hAe]; exact Or.inr h
  have hS : va_S A s.heap s.heap [] := va_S.rf
  have hl : lv_has ls 1 [(0, .int p0)] := hl
  obtain ⟨Q, hQ⟩ : ∃ Q, Q = MQ below (va_Qi (fun (r : Int32) (u9 : Unit) => ((0 : Int) ≤ r.toInt ∧ r.toInt ≤ 1) ∧ True) (fun u9 t => va_P (dC, dI) vwCl [] t.heap ∧ va_D A []) A) ([.int p0] : List Value).toArray s 0 0 A := ⟨_, rfl⟩
  rw [← hQ]
  have k0 : (0 : Int32).toInt = 0 := by decide
  have k1 : (1 : Int32).toInt = 1 := by decide
  have k48 : (48 : Int32).toInt = 48 := by decide
  have k57 : (57 : Int32).toInt = 57 := by decide
  refine lv_iload_n hx hb dX10_isDigit_0 rfl (lv_at hl 0 rfl) ?_
  refine lv_bipush (v := 48) hx hb dX10_isDigit_1 (by decide) ?_
  refine lv_icmp_lt (tgt := 16) hx hb dX10_isDigit_3 (by decide) (fun c1 => ?_) (fun c1 => ?_)
  · rw [ki_lt] at c1
    refine lv_iconst (v := 0) hx hb dX10_isDigit_16 (by decide) ?_
    have hP9 := hP.sub (ws' := []) [] rfl
    have hD9 := hD.sub (ws' := []) [] (by decide) rfl
    rw [hQ]
    exact W.zret (v := 0) hx hb hr (by decide) (fun t ht hW => ⟨⟨0, (), rfl, ⟨(show (0 : Int) ≤ (0 : Int32).toInt ∧ (0 : Int32).toInt ≤ 1 from ⟨by omega, by omega⟩), trivial⟩, (by rw [ht]; exact hP9), hD9⟩, hS.F ht⟩) hS.2.2 dX10_isDigit_17
  · rw [ki_lt] at c1
    refine lv_iload_n hx hb dX10_isDigit_6 rfl (lv_at hl 0 rfl) ?_
    refine lv_bipush (v := 57) hx hb dX10_isDigit_7 (by decide) ?_
    refine lv_icmp_gt (tgt := 16) hx hb dX10_isDigit_9 (by decide) (fun c2 => ?_) (fun c2 => ?_)
    · rw [ki_lt] at c2
      refine lv_iconst (v := 0) hx hb dX10_isDigit_16 (by decide) ?_
      have hP9 := hP.sub (ws' := []) [] rfl
      have hD9 := hD.sub (ws' := []) [] (by decide) rfl
      rw [hQ]
      exact W.zret (v := 0) hx hb hr (by decide) (fun t ht hW => ⟨⟨0, (), rfl, ⟨(show (0 : Int) ≤ (0 : Int32).toInt ∧ (0 : Int32).toInt ≤ 1 from ⟨by omega, by omega⟩), trivial⟩, (by rw [ht]; exact hP9), hD9⟩, hS.F ht⟩) hS.2.2 dX10_isDigit_17
    · rw [ki_lt] at c2
      refine lv_iconst (v := 1) hx hb dX10_isDigit_12 (by decide) ?_
      refine lv_goto (tgt := 17) hx hb dX10_isDigit_13 (by decide) ?_
      have hP9 := hP.sub (ws' := []) [] rfl
      have hD9 := hD.sub (ws' := []) [] (by decide) rfl
      rw [hQ]
      exact W.zret (v := 1) hx hb hr (by decide) (fun t ht hW => ⟨⟨1, (), rfl, ⟨(show (0 : Int) ≤ (1 : Int32).toInt ∧ (1 : Int32).toInt ≤ 1 from ⟨by omega, by omega⟩), trivial⟩, (by rw [ht]; exact hP9), hD9⟩, hS.F ht⟩) hS.2.2 dX10_isDigit_17
theorem dX10_readToken_0 : decode cX10_readToken 0 = .ok (.aload_n 0, 1) := by decide +kernel
theorem dX10_readToken_1 : decode cX10_readToken 1 = .ok (.aload_n 0, 1) := by decide +kernel
theorem dX10_readToken_2 : decode cX10_readToken 2 = .ok (.aload_n 0, 1) := by decide +kernel
theorem dX10_readToken_3 : decode cX10_readToken 3 = .ok (.getfield 25, 3) := by decide +kernel
theorem dX10_readToken_6 : decode cX10_readToken 6 = .ok (.invokevirtual 37, 3) := by decide +kernel
theorem dX10_readToken_9 : decode cX10_readToken 9 = .ok (.putfield 34, 3) := by decide +kernel
theorem dX10_readToken_12 : decode cX10_readToken 12 = .ok (.aload_n 0, 1) := by decide +kernel
theorem dX10_readToken_13 : decode cX10_readToken 13 = .ok (.aload_n 0, 1) := by decide +kernel
theorem dX10_readToken_14 : decode cX10_readToken 14 = .ok (.getfield 34, 3) := by decide +kernel
theorem dX10_readToken_17 : decode cX10_readToken 17 = .ok (.invokevirtual 41, 3) := by decide +kernel
theorem dX10_readToken_20 : decode cX10_readToken 20 = .ok (.istore_n 1, 1) := by decide +kernel
theorem dX10_readToken_21 : decode cX10_readToken 21 = .ok (.iload_n 1, 1) := by decide +kernel
theorem dX10_readToken_22 : decode cX10_readToken 22 = .ok (.iconst (-1), 1) := by decide +kernel
theorem dX10_readToken_23 : decode cX10_readToken 23 = .ok (.if_icmp .ne 19, 3) := by decide +kernel
theorem dX10_readToken_26 : decode cX10_readToken 26 = .ok (.aload_n 0, 1) := by decide +kernel
theorem dX10_readToken_27 : decode cX10_readToken 27 = .ok (.iconst 0, 1) := by decide +kernel
theorem dX10_readToken_28 : decode cX10_readToken 28 = .ok (.putfield 31, 3) := by decide +kernel
theorem dX10_readToken_31 : decode cX10_readToken 31 = .ok (.aload_n 0, 1) := by decide +kernel
theorem dX10_readToken_32 : decode cX10_readToken 32 = .ok (.aload_n 0, 1) := by decide +kernel
theorem dX10_readToken_33 : decode cX10_readToken 33 = .ok (.getfield 34, 3) := by decide +kernel
theorem dX10_readToken_36 : decode cX10_readToken 36 = .ok (.putfield 25, 3) := by decide +kernel
theorem dX10_readToken_39 : decode cX10_readToken 39 = .ok (.goto 94, 3) := by decide +kernel
theorem dX10_readToken_42 : decode cX10_readToken 42 = .ok (.iload_n 1, 1) := by decide +kernel
theorem dX10_readToken_43 : decode cX10_readToken 43 = .ok (.invokestatic 44, 3) := by decide +kernel
theorem dX10_readToken_46 : decode cX10_readToken 46 = .ok (.ifCond .eq 23, 3) := by decide +kernel
theorem dX10_readToken_49 : decode cX10_readToken 49 = .ok (.aload_n 0, 1) := by decide +kernel
theorem dX10_readToken_50 : decode cX10_readToken 50 = .ok (.iconst 1, 1) := by decide +kernel
theorem dX10_readToken_51 : decode cX10_readToken 51 = .ok (.putfield 31, 3) := by decide +kernel
theorem dX10_readToken_54 : decode cX10_readToken 54 = .ok (.aload_n 0, 1) := by decide +kernel
theorem dX10_readToken_55 : decode cX10_readToken 55 = .ok (.aload_n 0, 1) := by decide +kernel
theorem dX10_readToken_56 : decode cX10_readToken 56 = .ok (.aload_n 0, 1) := by decide +kernel
theorem dX10_readToken_57 : decode cX10_readToken 57 = .ok (.getfield 34, 3) := by decide +kernel
theorem dX10_readToken_60 : decode cX10_readToken 60 = .ok (.invokevirtual 48, 3) := by decide +kernel
theorem dX10_readToken_63 : decode cX10_readToken 63 = .ok (.putfield 25, 3) := by decide +kernel
theorem dX10_readToken_66 : decode cX10_readToken 66 = .ok (.goto 67, 3) := by decide +kernel
theorem dX10_readToken_69 : decode cX10_readToken 69 = .ok (.iload_n 1, 1) := by decide +kernel
theorem dX10_readToken_70 : decode cX10_readToken 70 = .ok (.invokestatic 51, 3) := by decide +kernel
theorem dX10_readToken_73 : decode cX10_readToken 73 = .ok (.ifCond .eq 23, 3) := by decide +kernel
theorem dX10_readToken_76 : decode cX10_readToken 76 = .ok (.aload_n 0, 1) := by decide +kernel
theorem dX10_readToken_77 : decode cX10_readToken 77 = .ok (.iconst 2, 1) := by decide +kernel
theorem dX10_readToken_78 : decode cX10_readToken 78 = .ok (.putfield 31, 3) := by decide +kernel
theorem dX10_readToken_81 : decode cX10_readToken 81 = .ok (.aload_n 0, 1) := by decide +kernel
theorem dX10_readToken_82 : decode cX10_readToken 82 = .ok (.aload_n 0, 1) := by decide +kernel
theorem dX10_readToken_83 : decode cX10_readToken 83 = .ok (.aload_n 0, 1) := by decide +kernel
theorem dX10_readToken_84 : decode cX10_readToken 84 = .ok (.getfield 34, 3) := by decide +kernel
theorem dX10_readToken_87 : decode cX10_readToken 87 = .ok (.invokevirtual 54, 3) := by decide +kernel
theorem dX10_readToken_90 : decode cX10_readToken 90 = .ok (.putfield 25, 3) := by decide +kernel
theorem dX10_readToken_93 : decode cX10_readToken 93 = .ok (.goto 40, 3) := by decide +kernel
theorem dX10_readToken_96 : decode cX10_readToken 96 = .ok (.aload_n 0, 1) := by decide +kernel
theorem dX10_readToken_97 : decode cX10_readToken 97 = .ok (.iload_n 1, 1) := by decide +kernel
theorem dX10_readToken_98 : decode cX10_readToken 98 = .ok (.bipush 59, 2) := by decide +kernel
theorem dX10_readToken_100 : decode cX10_readToken 100 = .ok (.if_icmp .eq 15, 3) := by decide +kernel
theorem dX10_readToken_103 : decode cX10_readToken 103 = .ok (.iload_n 1, 1) := by decide +kernel
theorem dX10_readToken_104 : decode cX10_readToken 104 = .ok (.bipush 123, 2) := by decide +kernel
theorem dX10_readToken_106 : decode cX10_readToken 106 = .ok (.if_icmp .eq 9, 3) := by decide +kernel
theorem dX10_readToken_109 : decode cX10_readToken 109 = .ok (.iload_n 1, 1) := by decide +kernel
theorem dX10_readToken_110 : decode cX10_readToken 110 = .ok (.bipush 125, 2) := by decide +kernel
theorem dX10_readToken_112 : decode cX10_readToken 112 = .ok (.if_icmp .ne 7, 3) := by decide +kernel
theorem dX10_readToken_115 : decode cX10_readToken 115 = .ok (.iconst 3, 1) := by decide +kernel
theorem dX10_readToken_116 : decode cX10_readToken 116 = .ok (.goto 4, 3) := by decide +kernel
theorem dX10_readToken_119 : decode cX10_readToken 119 = .ok (.iconst 4, 1) := by decide +kernel
theorem dX10_readToken_120 : decode cX10_readToken 120 = .ok (.putfield 31, 3) := by decide +kernel
theorem dX10_readToken_123 : decode cX10_readToken 123 = .ok (.aload_n 0, 1) := by decide +kernel
theorem dX10_readToken_124 : decode cX10_readToken 124 = .ok (.aload_n 0, 1) := by decide +kernel
theorem dX10_readToken_125 : decode cX10_readToken 125 = .ok (.getfield 34, 3) := by decide +kernel
theorem dX10_readToken_128 : decode cX10_readToken 128 = .ok (.iconst 1, 1) := by decide +kernel
theorem dX10_readToken_129 : decode cX10_readToken 129 = .ok (.iadd, 1) := by decide +kernel
theorem dX10_readToken_130 : decode cX10_readToken 130 = .ok (.putfield 25, 3) := by decide +kernel
theorem dX10_readToken_133 : decode cX10_readToken 133 = .ok (.return_, 1) := by decide +kernel
set_option maxHeartbeats 4000000 in
set_option maxRecDepth 100000 in
theorem s_X10_readToken (l : Launch) (dC : Nat → ClassId) (dI : Nat → Nat → Nat) (cI cZ cB cJ cM cG : ClassId) (a0 a1 : Nat) (i0 i1 i2 i3 i4 i5 i6 : Int32) (xF0 : Nat → Int32) (sz : Nat) (p_0 : (0 : Int) ≤ i0.toInt ∧ i0.toInt ≤ 1600) (p_1 : (0 : Int) ≤ i4.toInt ∧ i4.toInt ≤ 1600) (p_2 : (0 : Int) ≤ i5.toInt ∧ i5.toInt ≤ 1600) : Met l yX10_readToken (kw yX10_readToken cX10_readToken 2 none) ({ frames := 1, cells := 0, slots := 0, locals := 22 } : Room) (va_Pc [.ref a0] (kPre dC dI [(cI, .int), (cZ, .boolean), (cB, .byte), (cJ, .long), (cM, .object RX2), (cG, .array .int)] [(a0, .inr (10, [.ref a1, .int i0, .int i1, .int i2, .int i3, .int i4, .int i5, .int i6])), (a1, .inl (cB, 1600, .inl xF0))] sz)) (va_Qv (fun (u9 : (Nat → Int32) × (Nat → Nat → Int32) × (Nat → Nat → Int64)) => ((0 : Int) ≤ (u9.1 1).toInt ∧ (u9.1 1).toInt ≤ 1600) ∧ ((0 : Int) ≤ (u9.1 2).toInt ∧ (u9.1 2).toInt ≤ 1600) ∧ True) (fun u9 t => va_P (dC, dI) vwCl [(a0, .inr (10, [.ref a1, .int i0, .int i1, .int i2, .int (u9.1 0), .int (u9.1 1), .int (u9.1 2), .int (u9.1 3)])), (a1, .inl (cB, 1600, .inl xF0))] t.heap ∧ va_D (va_A [(a0, .inr (10, [.ref a1, .int i0, .int i1, .int i2, .int i3, .int i4, .int i5, .int i6])), (a1, .inl (cB, 1600, .inl xF0))] sz) [(a0, .inr (10, [.ref a1, .int i0, .int i1, .int i2, .int (u9.1 0), .int (u9.1 1), .int (u9.1 2), .int (u9.1 3)])), (a1, .inl (cB, 1600, .inl xF0))]) (va_A [(a0, .inr (10, [.ref a1, .int i0, .int i1, .int i2, .int i3, .int i4, .int i5, .int i6])), (a1, .inl (cB, 1600, .inl xF0))] sz)) 0 0 (va_A [(a0, .inr (10, [.ref a1, .int i0, .int i1, .int i2, .int i3, .int i4, .int i5, .int i6])), (a1, .inl (cB, 1600, .inl xF0))] sz) := by
  refine kEnter (by decide) (Nat.le_of_ble_eq_true rfl) ?_
  intro p e s m below meth c ls hx hb hr hml hown hlocks hin hwd hsz hP hK hD hl
  subst hsz
  generalize hAe : va_A [(a0, .inr (10, [.ref a1, .int i0, .int i1, .int i2, .int i3, .int i4, .int i5, .int i6])), (a1, .inl (cB, 1600, .inl xF0))] s.heap.size = A at hD ⊢
  have hA : ∀ q : Nat, s.heap.size ≤ q → A q := fun q h => by rw [← hAe]; exact Or.inr h
  have hS : va_S A s.heap s.heap [] := va_S.rf
  have hl : lv_has ls 2 [(0, .ref a0)] := hl
  obtain ⟨Q, hQ⟩ : ∃ Q, Q = MQ below (va_Qv (fun (u9 : (Nat → Int32) × (Nat → Nat → Int32) × (Nat → Nat → Int64)) => ((0 : Int) ≤ (u9.1 1).toInt ∧ (u9.1 1).toInt ≤ 1600) ∧ ((0 : Int) ≤ (u9.1 2).toInt ∧ (u9.1 2).toInt ≤ 1600) ∧ True) (fun u9 t => va_P (dC, dI) vwCl [(a0, .inr (10, [.ref a1, .int i0, .int i1, .int i2, .int (u9.1 0), .int (u9.1 1), .int (u9.1 2), .int (u9.1 3)])), (a1, .inl (cB, 1600, .inl xF0))] t.heap ∧ va_D A [(a0, .inr (10, [.ref a1, .int i0, .int i1, .int i2, .int (u9.1 0), .int (u9.1 1), .int (u9.1 2), .int (u9.1 3)])), (a1, .inl (cB, 1600, .inl xF0))]) A) ([.ref a0] : List Value).toArray s 0 0 A := ⟨_, rfl⟩
  rw [← hQ]
  have km1 : ((-1) : Int32).toInt = -1 := by decide
  have k0 : (0 : Int32).toInt = 0 := by decide
  have k1 : (1 : Int32).toInt = 1 := by decide
  have k3 : (3 : Int32).toInt = 3 := by decide
  have k4 : (4 : Int32).toInt = 4 := by decide
  have k59 : (59 : Int32).toInt = 59 := by decide
  have k123 : (123 : Int32).toInt = 123 := by decide
  have k125 : (125 : Int32).toInt = 125 := by decide
  refine lv_aload_n hx hb dX10_readToken_0 rfl (lv_at hl 0 rfl) ?_
  refine lv_aload_n hx hb dX10_readToken_1 rfl (lv_at hl 0 rfl) ?_
  refine lv_aload_n hx hb dX10_readToken_2 rfl (lv_at hl 0 rfl) ?_
  refine va_get (D := (dC, dI)) (ci := 10) (v := .int i5) (C := RX10) (T := TX10) (N := 8) hx hb hwd inlX10 hown hK hP 0 rfl rfl 6 (by decide) (hwd _ kr7_7) (fun _ h9 => h9) rfl dX10_readToken_3 ?_
  have hPc := hP.sub (ws' := [(a0, .inr (10, [.ref a1, .int i0, .int i1, .int i2, .int i3, .int i4, .int i5, .int i6])), (a1, .inl (cB, 1600, .inl xF0))]) [0, 1] rfl
  have hDc := hD.sub (ws' := [(a0, .inr (10, [.ref a1, .int i0, .int i1, .int i2, .int i3, .int i4, .int i5, .int i6])), (a1, .inl (cB, 1600, .inl xF0))]) [0, 1] (by decide) rfl
  have hFc := va_free (wc := [(a0, .inr (10, [.ref a1, .int i0, .int i1, .int i2, .int i3, .int i4, .int i5, .int i6])), (a1, .inl (cB, 1600, .inl xF0))]) hD hS hA [0, 1] rfl
  refine va_calli (va_runV (As := [.int i5]) (rest := [.ref a0]) ⟨hx, hb, hml, hown, hwd⟩ (s_X10_behindBlanks l dC dI cI cZ cB cJ cM cG a0 a1 i0 i1 i2 i3 i4 i5 i6 xF0 i5 s.heap.size (show (0 : Int) ≤ i0.toInt ∧ i0.toInt ≤ 1600 from p_0) (show (0 : Int) ≤ i4.toInt ∧ i4.toInt ≤ 1600 from p_1) (show (0 : Int) ≤ i5.toInt ∧ i5.toInt ≤ 1600 from p_2) (show (0 : Int) ≤ i5.toInt ∧ i5.toInt ≤ 1600 from p_2)) (cwV 1 hwd (gV kr18_5 kr18_6 kr1_0 kr5_12 kr18_7) rfl rfl rfl (by decide +kernel) ⟨Nat.le_of_ble_eq_true rfl, Nat.le_of_ble_eq_true rfl⟩) (kPreV hPc hK hDc (ci := 10) (q0 := 0) rfl rfl) rfl rfl hl.1 rfl (lv_room (Nat.le_of_ble_eq_true rfl)) dX10_readToken_6 ⟨Nat.le_of_ble_eq_true rfl, Nat.le_of_ble_eq_true rfl⟩) hS (fun q _ h => hFc q h) hFc (fun r1 u2 t H1 locs ht9 hvm hw hB hz1 hk1 hS => ?_)
  obtain ⟨hw3, -⟩ := hw
  replace hw3 : (0 : Int) ≤ r1.toInt ∧ r1.toInt ≤ 1600 := hw3
  obtain ⟨hP1, hD1⟩ := hB
  rw [ht9] at hP1
  obtain ⟨hP, hD⟩ := va_join (wr := []) (w1 := [(a0, .inr (10, [.ref a1, .int i0, .int i1, .int i2, .int i3, .int i4, .int i5, .int i6])), (a1, .inl (cB, 1600, .inl xF0))]) hP hD [0, 1] [] rfl rfl (by decide) (by decide) hk1 hFc hP1 hD1
  generalize H1 = H at hP hS ⊢
  replace hP : va_P (dC, dI) vwCl [(a0, .inr (10, [.ref a1, .int i0, .int i1, .int i2, .int i3, .int i4, .int i5, .int i6])), (a1, .inl (cB, 1600, .inl xF0))] H := hP
  replace hD : va_D A [(a0, .inr (10, [.ref a1, .int i0, .int i1, .int i2, .int i3, .int i4, .int i5, .int i6])), (a1, .inl (cB, 1600, .inl xF0))] := hD
  refine va_put (D := (dC, dI)) (ci := 10) (v := .int r1) (ty := .int) (C := RX10) (T := TX10) (N := 8) hx hb hwd inlX10 tyX10 tyX10_ok nmX10 hown hK hP hD hS 0 rfl rfl 5 (by decide) (hwd _ kr7_6) (fun _ h9 => h9) rfl (by decide +kernel) rfl rfl (Nat.le_of_ble_eq_true rfl) dX10_readToken_9 (fun H locs hP hD hS => ?_)
  replace hP : va_P (dC, dI) vwCl [(a0, .inr (10, [.ref a1, .int i0, .int i1, .int i2, .int i3, .int r1, .int i5, .int i6])), (a1, .inl (cB, 1600, .inl xF0))] H := hP
  replace hD : va_D A [(a0, .inr (10, [.ref a1, .int i0, .int i1, .int i2, .int i3, .int r1, .int i5, .int i6])), (a1, .inl (cB, 1600, .inl xF0))] := hD
  refine lv_aload_n hx hb dX10_readToken_12 rfl (lv_at hl 0 rfl) ?_
  refine lv_aload_n hx hb dX10_readToken_13 rfl (lv_at hl 0 rfl) ?_
  refine va_get (D := (dC, dI)) (ci := 10) (v := .int r1) (C := RX10) (T := TX10) (N := 8) hx hb hwd inlX10 hown hK hP 0 rfl rfl 5 (by decide) (hwd _ kr7_6) (fun _ h9 => h9) rfl dX10_readToken_14 ?_
  have hPc := hP.sub (ws' := [(a0, .inr (10, [.ref a1, .int i0, .int i1, .int i2, .int i3, .int r1, .int i5, .int i6])), (a1, .inl (cB, 1600, .inl xF0))]) [0, 1] rfl
  have hDc := hD.sub (ws' := [(a0, .inr (10, [.ref a1, .int i0, .int i1, .int i2, .int i3, .int r1, .int i5, .int i6])), (a1, .inl (cB, 1600, .inl xF0))]) [0, 1] (by decide) rfl
  have hFc := va_free (wc := [(a0, .inr (10, [.ref a1, .int i0, .int i1, .int i2, .int i3, .int r1, .int i5, .int i6])), (a1, .inl (cB, 1600, .inl xF0))]) hD hS hA [0, 1] rfl
  refine va_calli (va_runV (As := [.int r1]) (rest := []) ⟨hx, hb, hml, hown, hwd⟩ (s_X10_byteAt l dC dI cI cZ cB cJ cM cG a0 a1 i0 i1 i2 i3 r1 i5 i6 xF0 r1 H.size (show (0 : Int) ≤ i0.toInt ∧ i0.toInt ≤ 1600 from p_0) (show (0 : Int) ≤ r1.toInt ∧ r1.toInt ≤ 1600 from hw3) (show (0 : Int) ≤ i5.toInt ∧ i5.toInt ≤ 1600 from p_2)) (cwV 1 hwd (gV kr18_8 kr18_9 kr1_1 kr5_12 kr18_10) rfl rfl rfl (by decide +kernel) ⟨Nat.le_of_ble_eq_true rfl, Nat.le_of_ble_eq_true rfl⟩) (kPreV hPc hK hDc (ci := 10) (q0 := 0) rfl rfl) rfl rfl hl.1 rfl (lv_room (Nat.le_of_ble_eq_true rfl)) dX10_readToken_17 ⟨Nat.le_of_ble_eq_true rfl, Nat.le_of_ble_eq_true rfl⟩) hS (fun q _ h => hFc q h) hFc (fun r4 u5 t H1 locs ht9 hvm hw hB hz1 hk1 hS => ?_)
  obtain ⟨hw6, hw7, -⟩ := hw
  replace hw6 : (-1 : Int) ≤ r4.toInt ∧ r4.toInt ≤ 255 := hw6
  obtain ⟨hP1, hD1⟩ := hB
  rw [ht9] at hP1
  obtain ⟨hP, hD⟩ := va_join (wr := []) (w1 := [(a0, .inr (10, [.ref a1, .int i0, .int i1, .int i2, .int i3, .int r1, .int i5, .int i6])), (a1, .inl (cB, 1600, .inl xF0))]) hP hD [0, 1] [] rfl rfl (by decide) (by decide) hk1 hFc hP1 hD1
  generalize H1 = H at hP hS ⊢
  replace hP : va_P (dC, dI) vwCl [(a0, .inr (10, [.ref a1, .int i0, .int i1, .int i2, .int i3, .int r1, .int i5, .int i6])), (a1, .inl (cB, 1600, .inl xF0))] H := hP
  replace hD : va_D A [(a0, .inr (10, [.ref a1, .int i0, .int i1, .int i2, .int i3, .int r1, .int i5, .int i6])), (a1, .inl (cB, 1600, .inl xF0))] := hD
  refine lv_istore_n (lv' := [(1, .int r4), (0, .ref a0)]) hx hb dX10_readToken_20 rfl hl (by decide) rfl (fun ls hl => ?_)
  refine lv_iload_n hx hb dX10_readToken_21 rfl (lv_at hl 0 rfl) ?_
  refine lv_iconst (v := (-1)) hx hb dX10_readToken_22 (by decide) ?_
  refine lv_icmp_ne (tgt := 42) hx hb dX10_readToken_23 (by decide) (fun c8 => ?_) (fun c8 => ?_)
  · rw [ki_eq] at c8
    have hw7q := hw7 (by omega)
    clear hw7
    refine lv_iload_n hx hb dX10_readToken_42 rfl (lv_at hl 0 rfl) ?_
    have hPc := hP.sub (ws' := []) [] rfl
    have hDc := hD.sub (ws' := []) [] (by decide) rfl
    have hFc := va_free (wc := []) hD hS hA [] rfl
    refine va_calli (va_runS (As := [.int r4]) (rest := []) ⟨hx, hb, hml, hown, hwd⟩ (s_X10_isLetter l dC dI cI cZ cB cJ cM cG r4 H.size) (cwS 1 hwd (gS kr18_11 kr18_12 kr5_12 kr18_13) rfl rfl rfl (by decide +kernel) ⟨Nat.le_of_ble_eq_true rfl, Nat.le_of_ble_eq_true rfl⟩) (kPreS hPc hK hDc) rfl rfl hl.1 rfl (lv_room (Nat.le_of_ble_eq_true rfl)) dX10_readToken_43 ⟨Nat.le_of_ble_eq_true rfl, Nat.le_of_ble_eq_true rfl⟩) hS (fun q _ h => hFc q h) hFc (fun r9 u10 t H1 locs ht9 hvm hw hB hz1 hk1 hS => ?_)
    obtain ⟨hw11, -⟩ := hw
    replace hw11 : (0 : Int) ≤ r9.toInt ∧ r9.toInt ≤ 1 := hw11
    obtain ⟨hP1, hD1⟩ := hB
    rw [ht9] at hP1
    obtain ⟨hP, hD⟩ := va_join (wr := [(a0, .inr (10, [.ref a1, .int i0, .int i1, .int i2, .int i3, .int r1, .int i5, .int i6])), (a1, .inl (cB, 1600, .inl xF0))]) (w1 := []) hP hD [] [0, 1] rfl rfl (by decide) (by decide) hk1 hFc hP1 hD1
    generalize H1 = H at hP hS ⊢
    replace hP : va_P (dC, dI) vwCl [(a0, .inr (10, [.ref a1, .int i0, .int i1, .int i2, .int i3, .int r1, .int i5, .int i6])), (a1, .inl (cB, 1600, .inl xF0))] H := hP
    replace hD : va_D A [(a0, .inr (10, [.ref a1, .int i0, .int i1, .int i2, .int i3, .int r1, .int i5, .int i6])), (a1, .inl (cB, 1600, .inl xF0))] := hD
    refine lv_if_eq (tgt := 69) hx hb dX10_readToken_46 (by decide) (fun c12 => ?_) (fun c12 => ?_)
    · rw [ki_eq] at c12
      refine lv_iload_n hx hb dX10_readToken_69 rfl (lv_at hl 0 rfl) ?_
      have hPc := hP.sub (ws' := []) [] rfl
      have hDc := hD.sub (ws' := []) [] (by decide) rfl
      have hFc := va_free (wc := []) hD hS hA [] rfl
      refine va_calli (va_runS (As := [.int r4]) (rest := []) ⟨hx, hb, hml, hown, hwd⟩ (s_X10_isDigit l dC dI cI cZ cB cJ cM cG r4 H.size) (cwS 1 hwd (gS kr18_17 kr18_18 kr5_12 kr18_19) rfl rfl rfl (by decide +kernel) ⟨Nat.le_of_ble_eq_true rfl, Nat.le_of_ble_eq_true rfl⟩) (kPreS hPc hK hDc) rfl rfl hl.1 rfl (lv_room (Nat.le_of_ble_eq_true rfl)) dX10_readToken_70 ⟨Nat.le_of_ble_eq_true rfl, Nat.le_of_ble_eq_true rfl⟩) hS (fun q _ h => hFc q h) hFc (fun r13 u14 t H1 locs ht9 hvm hw hB hz1 hk1 hS => ?_)
      obtain ⟨hw15, -⟩ := hw
      replace hw15 : (0 : Int) ≤ r13.toInt ∧ r13.toInt ≤ 1 := hw15
      obtain ⟨hP1, hD1⟩ := hB
      rw [ht9] at hP1
      obtain ⟨hP, hD⟩ := va_join (wr := [(a0, .inr (10, [.ref a1, .int i0, .int i1, .int i2, .int i3, .int r1, .int i5, .int i6])), (a1, .inl (cB, 1600, .inl xF0))]) (w1 := []) hP hD [] [0, 1] rfl rfl (by decide) (by decide) hk1 hFc hP1 hD1
      generalize H1 = H at hP hS ⊢
      replace hP : va_P (dC, dI) vwCl [(a0, .inr (10, [.ref a1, .int i0, .int i1, .int i2, .int i3, .int r1, .int i5, .int i6])), (a1, .inl (cB, 1600, .inl xF0))] H := hP
      replace hD : va_D A [(a0, .inr (10, [.ref a1, .int i0, .int i1, .int i2, .int i3, .int r1, .int i5, .int i6])), (a1, .inl (cB, 1600, .inl xF0))] := hD
      refine lv_if_eq (tgt := 96) hx hb dX10_readToken_73 (by decide) (fun c16 => ?_) (fun c16 => ?_)
      · rw [ki_eq] at c16
        refine lv_aload_n hx hb dX10_readToken_96 rfl (lv_at hl 1 rfl) ?_
        refine lv_iload_n hx hb dX10_readToken_97 rfl (lv_at hl 0 rfl) ?_
        refine lv_bipush (v := 59) hx hb dX10_readToken_98 (by decide) ?_
        have jp1 : ∀ (H : Heap) (locs : List Loc) (ls : Array Slot) (z1_1 : Int32), ((3 : Int) ≤ z1_1.toInt ∧ z1_1.toInt ≤ 4) → va_P (dC, dI) vwCl [(a0, .inr (10, [.ref a1, .int i0, .int i1, .int i2, .int i3, .int r1, .int i5, .int i6])), (a1, .inl (cB, 1600, .inl xF0))] H → va_D A [(a0, .inr (10, [.ref a1, .int i0, .int i1, .int i2, .int i3, .int r1, .int i5, .int i6])), (a1, .inl (cB, 1600, .inl xF0))] → va_S A s.heap H locs → lv_has ls 2 [(0, .ref a0), (1, .int r4)] → W p l e ({ frames := 1, cells := 0, slots := 0, locals := 22 } : Room) s m ([.ref a0] : List Value).toArray below meth c H locs 0 0 Q (F0 m 120 ls [.int z1_1, .ref a0]) := by
          intro H locs ls z1_1 hr_z1_1 hP hD hS hl
          refine va_put (D := (dC, dI)) (ci := 10) (v := .int z1_1) (ty := .int) (C := RX10) (T := TX10) (N := 8) hx hb hwd inlX10 tyX10 tyX10_ok nmX10 hown hK hP hD hS 0 rfl rfl 4 (by decide) (hwd _ kr7_5) (fun _ h9 => h9) rfl (by decide +kernel) rfl rfl (Nat.le_of_ble_eq_true rfl) dX10_readToken_120 (fun H locs hP hD hS => ?_)
          replace hP : va_P (dC, dI) vwCl [(a0, .inr (10, [.ref a1, .int i0, .int i1, .int i2, .int z1_1, .int r1, .int i5, .int i6])), (a1, .inl (cB, 1600, .inl xF0))] H := hP
          replace hD : va_D A [(a0, .inr (10, [.ref a1, .int i0, .int i1, .int i2, .int z1_1, .int r1, .int i5, .int i6])), (a1, .inl (cB, 1600, .inl xF0))] := hD
          refine lv_aload_n hx hb dX10_readToken_123 rfl (lv_at hl 0 rfl) ?_
          refine lv_aload_n hx hb dX10_readToken_124 rfl (lv_at hl 0 rfl) ?_
          refine va_get (D := (dC, dI)) (ci := 10) (v := .int r1) (C := RX10) (T := TX10) (N := 8) hx hb hwd inlX10 hown hK hP 0 rfl rfl 5 (by decide) (hwd _ kr7_6) (fun _ h9 => h9) rfl dX10_readToken_125 ?_
          refine lv_iconst (v := 1) hx hb dX10_readToken_128 (by decide) ?_
          refine lv_iadd hx hb dX10_readToken_129 ?_
          refine lv_topi (fun x20 ex20 => ?_)
          have tx20 := ia_add (a := r1) (b := (1 : Int32)) (by omega) (by omega)
          rw [← ex20] at tx20
          refine va_put (D := (dC, dI)) (ci := 10) (v := .int x20) (ty := .int) (C := RX10) (T := TX10) (N := 8) hx hb hwd inlX10 tyX10 tyX10_ok nmX10 hown hK hP hD hS 0 rfl rfl 6 (by decide) (hwd _ kr7_7) (fun _ h9 => h9) rfl (by decide +kernel) rfl rfl (Nat.le_of_ble_eq_true rfl) dX10_readToken_130 (fun H locs hP hD hS => ?_)
          replace hP : va_P (dC, dI) vwCl [(a0, .inr (10, [.ref a1, .int i0, .int i1, .int i2, .int z1_1, .int r1, .int x20, .int i6])), (a1, .inl (cB, 1600, .inl xF0))] H := hP
          replace hD : va_D A [(a0, .inr (10, [.ref a1, .int i0, .int i1, .int i2, .int z1_1, .int r1, .int x20, .int i6])), (a1, .inl (cB, 1600, .inl xF0))] := hD
          have hP9 := hP.sub (ws' := [(a0, .inr (10, [.ref a1, .int i0, .int i1, .int i2, .int z1_1, .int r1, .int x20, .int i6])), (a1, .inl (cB, 1600, .inl xF0))]) [0, 1] rfl
          have hD9 := hD.sub (ws' := [(a0, .inr (10, [.ref a1, .int i0, .int i1, .int i2, .int z1_1, .int r1, .int x20, .int i6])), (a1, .inl (cB, 1600, .inl xF0))]) [0, 1] (by decide) rfl
          rw [hQ]
          exact W.vret hx hb hr (fun t ht hW => ⟨⟨(pickG 0 [z1_1, r1, x20, i6], pickG (fun _ => 0) [], pickG (fun _ => 0) []), rfl, ⟨(show (0 : Int) ≤ r1.toInt ∧ r1.toInt ≤ 1600 from hw3), (show (0 : Int) ≤ x20.toInt ∧ x20.toInt ≤ 1600 from ⟨by omega, by omega⟩), trivial⟩, (by rw [ht]; exact hP9), hD9⟩, hS.F ht⟩) hS.2.2 dX10_readToken_133
        refine lv_icmp_eq (tgt := 115) hx hb dX10_readToken_100 (by decide) (fun c21 => ?_) (fun c21 => ?_)
        · rw [ki_eq] at c21
          refine lv_iconst (v := 3) hx hb dX10_readToken_115 (by decide) ?_
          refine lv_goto (tgt := 120) hx hb dX10_readToken_116 (by decide) ?_
          exact jp1 _ _ ls (3) (show (3 : Int) ≤ (3 : Int32).toInt ∧ (3 : Int32).toInt ≤ 4 from ⟨by omega, by omega⟩) (hP.sub (ws' := [(a0, .inr (10, [.ref a1, .int i0, .int i1, .int i2, .int i3, .int r1, .int i5, .int i6])), (a1, .inl (cB, 1600, .inl xF0))]) [0, 1] rfl) (hD.sub (ws' := [(a0, .inr (10, [.ref a1, .int i0, .int i1, .int i2, .int i3, .int r1, .int i5, .int i6])), (a1, .inl (cB, 1600, .inl xF0))]) [0, 1] (by decide) rfl) hS (lv_sub hl [1, 0] rfl)
        · rw [ki_eq] at c21
          refine lv_iload_n hx hb dX10_readToken_103 rfl (lv_at hl 0 rfl) ?_
          refine lv_bipush (v := 123) hx hb dX10_readToken_104 (by decide) ?_
          refine lv_icmp_eq (tgt := 115) hx hb dX10_readToken_106 (by decide) (fun c22 => ?_) (fun c22 => ?_)
          · rw [ki_eq] at c22
            refine lv_iconst (v := 3) hx hb dX10_readToken_115 (by decide) ?_
            refine lv_goto (tgt := 120) hx hb dX10_readToken_116 (by decide) ?_
            exact jp1 _ _ ls (3) (show (3 : Int) ≤ (3 : Int32).toInt ∧ (3 : Int32).toInt ≤ 4 from ⟨by omega, by omega⟩) (hP.sub (ws' := [(a0, .inr (10, [.ref a1, .int i0, .int i1, .int i2, .int i3, .int r1, .int i5, .int i6])), (a1, .inl (cB, 1600, .inl xF0))]) [0, 1] rfl) (hD.sub (ws' := [(a0, .inr (10, [.ref a1, .int i0, .int i1, .int i2, .int i3, .int r1, .int i5, .int i6])), (a1, .inl (cB, 1600, .inl xF0))]) [0, 1] (by decide) rfl) hS (lv_sub hl [1, 0] rfl)
          · rw [ki_eq] at c22
            refine lv_iload_n hx hb dX10_readToken_109 rfl (lv_at hl 0 rfl) ?_
            refine lv_bipush (v := 125) hx hb dX10_readToken_110 (by decide) ?_
            refine lv_icmp_ne (tgt := 119) hx hb dX10_readToken_112 (by decide) (fun c23 => ?_) (fun c23 => ?_)
            · rw [ki_eq] at c23
              refine lv_iconst (v := 4) hx hb dX10_readToken_119 (by decide) ?_
              exact jp1 _ _ ls (4) (show (3 : Int) ≤ (4 : Int32).toInt ∧ (4 : Int32).toInt ≤ 4 from ⟨by omega, by omega⟩) (hP.sub (ws' := [(a0, .inr (10, [.ref a1, .int i0, .int i1, .int i2, .int i3, .int r1, .int i5, .int i6])), (a1, .inl (cB, 1600, .inl xF0))]) [0, 1] rfl) (hD.sub (ws' := [(a0, .inr (10, [.ref a1, .int i0, .int i1, .int i2, .int i3, .int r1, .int i5, .int i6])), (a1, .inl (cB, 1600, .inl xF0))]) [0, 1] (by decide) rfl) hS (lv_sub hl [1, 0] rfl)
            · rw [ki_eq] at c23
              refine lv_iconst (v := 3) hx hb dX10_readToken_115 (by decide) ?_
              refine lv_goto (tgt := 120) hx hb dX10_readToken_116 (by decide) ?_
              exact jp1 _ _ ls (3) (show (3 : Int) ≤ (3 : Int32).toInt ∧ (3 : Int32).toInt ≤ 4 from ⟨by omega, by omega⟩) (hP.sub (ws' := [(a0, .inr (10, [.ref a1, .int i0, .int i1, .int i2, .int i3, .int r1, .int i5, .int i6])), (a1, .inl (cB, 1600, .inl xF0))]) [0, 1] rfl) (hD.sub (ws' := [(a0, .inr (10, [.ref a1, .int i0, .int i1, .int i2, .int i3, .int r1, .int i5, .int i6])), (a1, .inl (cB, 1600, .inl xF0))]) [0, 1] (by decide) rfl) hS (lv_sub hl [1, 0] rfl)
      · rw [ki_eq] at c16
        refine lv_aload_n hx hb dX10_readToken_76 rfl (lv_at hl 1 rfl) ?_
        refine lv_iconst (v := 2) hx hb dX10_readToken_77 (by decide) ?_
        refine va_put (D := (dC, dI)) (ci := 10) (v := .int 2) (ty := .int) (C := RX10) (T := TX10) (N := 8) hx hb hwd inlX10 tyX10 tyX10_ok nmX10 hown hK hP hD hS 0 rfl rfl 4 (by decide) (hwd _ kr7_5) (fun _ h9 => h9) rfl (by decide +kernel) rfl rfl (Nat.le_of_ble_eq_true rfl) dX10_readToken_78 (fun H locs hP hD hS => ?_)
        replace hP : va_P (dC, dI) vwCl [(a0, .inr (10, [.ref a1, .int i0, .int i1, .int i2, .int 2, .int r1, .int i5, .int i6])), (a1, .inl (cB, 1600, .inl xF0))] H := hP
        replace hD : va_D A [(a0, .inr (10, [.ref a1, .int i0, .int i1, .int i2, .int 2, .int r1, .int i5, .int i6])), (a1, .inl (cB, 1600, .inl xF0))] := hD
        refine lv_aload_n hx hb dX10_readToken_81 rfl (lv_at hl 1 rfl) ?_
        refine lv_aload_n hx hb dX10_readToken_82 rfl (lv_at hl 1 rfl) ?_
        refine lv_aload_n hx hb dX10_readToken_83 rfl (lv_at hl 1 rfl) ?_
        refine va_get (D := (dC, dI)) (ci := 10) (v := .int r1) (C := RX10) (T := TX10) (N := 8) hx hb hwd inlX10 hown hK hP 0 rfl rfl 5 (by decide) (hwd _ kr7_6) (fun _ h9 => h9) rfl dX10_readToken_84 ?_
        have hPc := hP.sub (ws' := [(a0, .inr (10, [.ref a1, .int i0, .int i1, .int i2, .int 2, .int r1, .int i5, .int i6])), (a1, .inl (cB, 1600, .inl xF0))]) [0, 1] rfl
        have hDc := hD.sub (ws' := [(a0, .inr (10, [.ref a1, .int i0, .int i1, .int i2, .int 2, .int r1, .int i5, .int i6])), (a1, .inl (cB, 1600, .inl xF0))]) [0, 1] (by decide) rfl
        have hFc := va_free (wc := [(a0, .inr (10, [.ref a1, .int i0, .int i1, .int i2, .int 2, .int r1, .int i5, .int i6])), (a1, .inl (cB, 1600, .inl xF0))]) hD hS hA [0, 1] rfl
        refine va_calli (va_runV (As := [.int r1]) (rest := [.ref a0]) ⟨hx, hb, hml, hown, hwd⟩ (s_X10_behindDigits l dC dI cI cZ cB cJ cM cG a0 a1 i0 i1 i2 2 r1 i5 i6 xF0 r1 H.size (show (0 : Int) ≤ i0.toInt ∧ i0.toInt ≤ 1600 from p_0) (show (0 : Int) ≤ r1.toInt ∧ r1.toInt ≤ 1600 from hw3) (show (0 : Int) ≤ i5.toInt ∧ i5.toInt ≤ 1600 from p_2) (show (0 : Int) ≤ r1.toInt ∧ r1.toInt ≤ 1600 from hw3)) (cwV 1 hwd (gV kr18_20 kr18_21 kr1_3 kr5_12 kr18_22) rfl rfl rfl (by decide +kernel) ⟨Nat.le_of_ble_eq_true rfl, Nat.le_of_ble_eq_true rfl⟩) (kPreV hPc hK hDc (ci := 10) (q0 := 0) rfl rfl) rfl rfl hl.1 rfl (lv_room (Nat.le_of_ble_eq_true rfl)) dX10_readToken_87 ⟨Nat.le_of_ble_eq_true rfl, Nat.le_of_ble_eq_true rfl⟩) hS (fun q _ h => hFc q h) hFc (fun r24 u25 t H1 locs ht9 hvm hw hB hz1 hk1 hS => ?_)
        obtain ⟨u26, U26, V26⟩ := u25
        obtain ⟨hw27, -⟩ := hw
        replace hw27 : (0 : Int) ≤ r24.toInt ∧ r24.toInt ≤ 1600 := hw27
        obtain ⟨hP1, hD1⟩ := hB
        rw [ht9] at hP1
        obtain ⟨hP, hD⟩ := va_join (wr := []) (w1 := [(a0, .inr (10, [.ref a1, .int i0, .int i1, .int i2, .int 2, .int r1, .int i5, .int (u26 0)])), (a1, .inl (cB, 1600, .inl xF0))]) hP hD [0, 1] [] rfl rfl (by decide) (by decide) hk1 hFc hP1 hD1
        generalize H1 = H at hP hS ⊢
        replace hP : va_P (dC, dI) vwCl [(a0, .inr (10, [.ref a1, .int i0, .int i1, .int i2, .int 2, .int r1, .int i5, .int (u26 0)])), (a1, .inl (cB, 1600, .inl xF0))] H := hP
        replace hD : va_D A [(a0, .inr (10, [.ref a1, .int i0, .int i1, .int i2, .int 2, .int r1, .int i5, .int (u26 0)])), (a1, .inl (cB, 1600, .inl xF0))] := hD
        refine va_put (D := (dC, dI)) (ci := 10) (v := .int r24) (ty := .int) (C := RX10) (T := TX10) (N := 8) hx hb hwd inlX10 tyX10 tyX10_ok nmX10 hown hK hP hD hS 0 rfl rfl 6 (by decide) (hwd _ kr7_7) (fun _ h9 => h9) rfl (by decide +kernel) rfl rfl (Nat.le_of_ble_eq_true rfl) dX10_readToken_90 (fun H locs hP hD hS => ?_)
        replace hP : va_P (dC, dI) vwCl [(a0, .inr (10, [.ref a1, .int i0, .int i1, .int i2, .int 2, .int r1, .int r24, .int (u26 0)])), (a1, .inl (cB, 1600, .inl xF0))] H := hP
        replace hD : va_D A [(a0, .inr (10, [.ref a1, .int i0, .int i1, .int i2, .int 2, .int r1, .int r24, .int (u26 0)])), (a1, .inl (cB, 1600, .inl xF0))] := hD
        refine lv_goto (tgt := 133) hx hb dX10_readToken_93 (by decide) ?_
        have hP9 := hP.sub (ws' := [(a0, .inr (10, [.ref a1, .int i0, .int i1, .int i2, .int 2, .int r1, .int r24, .int (u26 0)])), (a1, .inl (cB, 1600, .inl xF0))]) [0, 1] rfl
        have hD9 := hD.sub (ws' := [(a0, .inr (10, [.ref a1, .int i0, .int i1, .int i2, .int 2, .int r1, .int r24, .int (u26 0)])), (a1, .inl (cB, 1600, .inl xF0))]) [0, 1] (by decide) rfl
        rw [hQ]
        exact W.vret hx hb hr (fun t ht hW => ⟨⟨(pickG 0 [2, r1, r24, (u26 0)], pickG (fun _ => 0) [], pickG (fun _ => 0) []), rfl, ⟨(show (0 : Int) ≤ r1.toInt ∧ r1.toInt ≤ 1600 from hw3), (show (0 : Int) ≤ r24.toInt ∧ r24.toInt ≤ 1600 from hw27), trivial⟩, (by rw [ht]; exact hP9), hD9⟩, hS.F ht⟩) hS.2.2 dX10_readToken_133
    · rw [ki_eq] at c12
      refine lv_aload_n hx hb dX10_readToken_49 rfl (lv_at hl 1 rfl) ?_
      refine lv_iconst (v := 1) hx hb dX10_readToken_50 (by decide) ?_
      refine va_put (D := (dC, dI)) (ci := 10) (v := .int 1) (ty := .int) (C := RX10) (T := TX10) (N := 8) hx hb hwd inlX10 tyX10 tyX10_ok nmX10 hown hK hP hD hS 0 rfl rfl 4 (by decide) (hwd _ kr7_5) (fun _ h9 => h9) rfl (by decide +kernel) rfl rfl (Nat.le_of_ble_eq_true rfl) dX10_readToken_51 (fun H locs hP hD hS => ?_)
      replace hP : va_P (dC, dI) vwCl [(a0, .inr (10, [.ref a1, .int i0, .int i1, .int i2, .int 1, .int r1, .int i5, .int i6])), (a1, .inl (cB, 1600, .inl xF0))] H := hP
      replace hD : va_D A [(a0, .inr (10, [.ref a1, .int i0, .int i1, .int i2, .int 1, .int r1, .int i5, .int i6])), (a1, .inl (cB, 1600, .inl xF0))] := hD
      refine lv_aload_n hx hb dX10_readToken_54 rfl (lv_at hl 1 rfl) ?_
      refine lv_aload_n hx hb dX10_readToken_55 rfl (lv_at hl 1 rfl) ?_
      refine lv_aload_n hx hb dX10_readToken_56 rfl (lv_at hl 1 rfl) ?_
      refine va_get (D := (dC, dI)) (ci := 10) (v := .int r1) (C := RX10) (T := TX10) (N := 8) hx hb hwd inlX10 hown hK hP 0 rfl rfl 5 (by decide) (hwd _ kr7_6) (fun _ h9 => h9) rfl dX10_readToken_57 ?_
      have hPc := hP.sub (ws' := [(a0, .inr (10, [.ref a1, .int i0, .int i1, .int i2, .int 1, .int r1, .int i5, .int i6])), (a1, .inl (cB, 1600, .inl xF0))]) [0, 1] rfl
      have hDc := hD.sub (ws' := [(a0, .inr (10, [.ref a1, .int i0, .int i1, .int i2, .int 1, .int r1, .int i5, .int i6])), (a1, .inl (cB, 1600, .inl xF0))]) [0, 1] (by decide) rfl
      have hFc := va_free (wc := [(a0, .inr (10, [.ref a1, .int i0, .int i1, .int i2, .int 1, .int r1, .int i5, .int i6])), (a1, .inl (cB, 1600, .inl xF0))]) hD hS hA [0, 1] rfl
      refine va_calli (va_runV (As := [.int r1]) (rest := [.ref a0]) ⟨hx, hb, hml, hown, hwd⟩ (s_X10_behindLetters l dC dI cI cZ cB cJ cM cG a0 a1 i0 i1 i2 1 r1 i5 i6 xF0 r1 H.size (show (0 : Int) ≤ i0.toInt ∧ i0.toInt ≤ 1600 from p_0) (show (0 : Int) ≤ r1.toInt ∧ r1.toInt ≤ 1600 from hw3) (show (0 : Int) ≤ i5.toInt ∧ i5.toInt ≤ 1600 from p_2) (show (0 : Int) ≤ r1.toInt ∧ r1.toInt ≤ 1600 from hw3)) (cwV 1 hwd (gV kr18_14 kr18_15 kr1_2 kr5_12 kr18_16) rfl rfl rfl (by decide +kernel) ⟨Nat.le_of_ble_eq_true rfl, Nat.le_of_ble_eq_true rfl⟩) (kPreV hPc hK hDc (ci := 10) (q0 := 0) rfl rfl) rfl rfl hl.1 rfl (lv_room (Nat.le_of_ble_eq_true rfl)) dX10_readToken_60 ⟨Nat.le_of_ble_eq_true rfl, Nat.le_of_ble_eq_true rfl⟩) hS (fun q _ h => hFc q h) hFc (fun r28 u29 t H1 locs ht9 hvm hw hB hz1 hk1 hS => ?_)
      obtain ⟨hw30, -⟩ := hw
      replace hw30 : (0 : Int) ≤ r28.toInt ∧ r28.toInt ≤ 1600 := hw30
      obtain ⟨hP1, hD1⟩ := hB
      rw [ht9] at hP1
      obtain ⟨hP, hD⟩ := va_join (wr := []) (w1 := [(a0, .inr (10, [.ref a1, .int i0, .int i1, .int i2, .int 1, .int r1, .int i5, .int i6])), (a1, .inl (cB, 1600, .inl xF0))]) hP hD [0, 1] [] rfl rfl (by decide) (by decide) hk1 hFc hP1 hD1
      generalize H1 = H at hP hS ⊢
      replace hP : va_P (dC, dI) vwCl [(a0, .inr (10, [.ref a1, .int i0, .int i1, .int i2, .int 1, .int r1, .int i5, .int i6])), (a1, .inl (cB, 1600, .inl xF0))] H := hP
      replace hD : va_D A [(a0, .inr (10, [.ref a1, .int i0, .int i1, .int i2, .int 1, .int r1, .int i5, .int i6])), (a1, .inl (cB, 1600, .inl xF0))] := hD
      refine va_put (D := (dC, dI)) (ci := 10) (v := .int r28) (ty := .int) (C := RX10) (T := TX10) (N := 8) hx hb hwd inlX10 tyX10 tyX10_ok nmX10 hown hK hP hD hS 0 rfl rfl 6 (by decide) (hwd _ kr7_7) (fun _ h9 => h9) rfl (by decide +kernel) rfl rfl (Nat.le_of_ble_eq_true rfl) dX10_readToken_63 (fun H locs hP hD hS => ?_)
      replace hP : va_P (dC, dI) vwCl [(a0, .inr (10, [.ref a1, .int i0, .int i1, .int i2, .int 1, .int r1, .int r28, .int i6])), (a1, .inl (cB, 1600, .inl xF0))] H := hP
      replace hD : va_D A [(a0, .inr (10, [.ref a1, .int i0, .int i1, .int i2, .int 1, .int r1, .int r28, .int i6])), (a1, .inl (cB, 1600, .inl xF0))] := hD
      refine lv_goto (tgt := 133) hx hb dX10_readToken_66 (by decide) ?_
      have hP9 := hP.sub (ws' := [(a0, .inr (10, [.ref a1, .int i0, .int i1, .int i2, .int 1, .int r1, .int r28, .int i6])), (a1, .inl (cB, 1600, .inl xF0))]) [0, 1] rfl
      have hD9 := hD.sub (ws' := [(a0, .inr (10, [.ref a1, .int i0, .int i1, .int i2, .int 1, .int r1, .int r28, .int i6])), (a1, .inl (cB, 1600, .inl xF0))]) [0, 1] (by decide) rfl
      rw [hQ]
      exact W.vret hx hb hr (fun t ht hW => ⟨⟨(pickG 0 [1, r1, r28, i6], pickG (fun _ => 0) [], pickG (fun _ => 0) []), rfl, ⟨(show (0 : Int) ≤ r1.toInt ∧ r1.toInt ≤ 1600 from hw3), (show (0 : Int) ≤ r28.toInt ∧ r28.toInt ≤ 1600 from hw30), trivial⟩, (by rw [ht]; exact hP9), hD9⟩, hS.F ht⟩) hS.2.2 dX10_readToken_133
  · rw [ki_eq] at c8
    refine lv_aload_n hx hb dX10_readToken_26 rfl (lv_at hl 1 rfl) ?_
    refine lv_iconst (v := 0) hx hb dX10_readToken_27 (by decide) ?_
    refine va_put (D := (dC, dI)) (ci := 10) (v := .int 0) (ty := .int) (C := RX10) (T := TX10) (N := 8) hx hb hwd inlX10 tyX10 tyX10_ok nmX10 hown hK hP hD hS 0 rfl rfl 4 (by decide) (hwd _ kr7_5) (fun _ h9 => h9) rfl (by decide +kernel) rfl rfl (Nat.le_of_ble_eq_true rfl) dX10_readToken_28 (fun H locs hP hD hS => ?_)
    replace hP : va_P (dC, dI) vwCl [(a0, .inr (10, [.ref a1, .int i0, .int i1, .int i2, .int 0, .int r1, .int i5, .int i6])), (a1, .inl (cB, 1600, .inl xF0))] H := hP
    replace hD : va_D A [(a0, .inr (10, [.ref a1, .int i0, .int i1, .int i2, .int 0, .int r1, .int i5, .int i6])), (a1, .inl (cB, 1600, .inl xF0))] := hD
    refine lv_aload_n hx hb dX10_readToken_31 rfl (lv_at hl 1 rfl) ?_
    refine lv_aload_n hx hb dX10_readToken_32 rfl (lv_at hl 1 rfl) ?_
    refine va_get (D := (dC, dI)) (ci := 10) (v := .int r1) (C := RX10) (T := TX10) (N := 8) hx hb hwd inlX10 hown hK hP 0 rfl rfl 5 (by decide) (hwd _ kr7_6) (fun _ h9 => h9) rfl dX10_readToken_33 ?_
    refine va_put (D := (dC, dI)) (ci := 10) (v := .int r1) (ty := .int) (C := RX10) (T := TX10) (N := 8) hx hb hwd inlX10 tyX10 tyX10_ok nmX10 hown hK hP hD hS 0 rfl rfl 6 (by decide) (hwd _ kr7_7) (fun _ h9 => h9) rfl (by decide +kernel) rfl rfl (Nat.le_of_ble_eq_true rfl) dX10_readToken_36 (fun H locs hP hD hS => ?_)
    replace hP : va_P (dC, dI) vwCl [(a0, .inr (10, [.ref a1, .int i0, .int i1, .int i2, .int 0, .int r1, .int r1, .int i6])), (a1, .inl (cB, 1600, .inl xF0))] H := hP
    replace hD : va_D A [(a0, .inr (10, [.ref a1, .int i0, .int i1, .int i2, .int 0, .int r1, .int r1, .int i6])), (a1, .inl (cB, 1600, .inl xF0))] := hD
    refine lv_goto (tgt := 133) hx hb dX10_readToken_39 (by decide) ?_
    have hP9 := hP.sub (ws' := [(a0, .inr (10, [.ref a1, .int i0, .int i1, .int i2, .int 0, .int r1, .int r1, .int i6])), (a1, .inl (cB, 1600, .inl xF0))]) [0, 1] rfl
    have hD9 := hD.sub (ws' := [(a0, .inr (10, [.ref a1, .int i0, .int i1, .int i2, .int 0, .int r1, .int r1, .int i6])), (a1, .inl (cB, 1600, .inl xF0))]) [0, 1] (by decide) rfl
    rw [hQ]
    exact W.vret hx hb hr (fun t ht hW => ⟨⟨(pickG 0 [0, r1, r1, i6], pickG (fun _ => 0) [], pickG (fun _ => 0) []), rfl, ⟨(show (0 : Int) ≤ r1.toInt ∧ r1.toInt ≤ 1600 from hw3), (show (0 : Int) ≤ r1.toInt ∧ r1.toInt ≤ 1600 from hw3), trivial⟩, (by rw [ht]; exact hP9), hD9⟩, hS.F ht⟩) hS.2.2 dX10_readToken_133
theorem dX10_beginReading_0 : decode cX10_beginReading 0 = .ok (.aload_n 0, 1) := by decide +kernel
theorem dX10_beginReading_1 : decode cX10_beginReading 1 = .ok (.iconst 0, 1) := by decide +kernel
theorem dX10_beginReading_2 : decode cX10_beginReading 2 = .ok (.putfield 22, 3) := by decide +kernel
theorem dX10_beginReading_5 : decode cX10_beginReading 5 = .ok (.aload_n 0, 1) := by decide +kernel
theorem dX10_beginReading_6 : decode cX10_beginReading 6 = .ok (.iconst (-1), 1) := by decide +kernel
theorem dX10_beginReading_7 : decode cX10_beginReading 7 = .ok (.putfield 15, 3) := by decide +kernel
theorem dX10_beginReading_10 : decode cX10_beginReading 10 = .ok (.aload_n 0, 1) := by decide +kernel
theorem dX10_beginReading_11 : decode cX10_beginReading 11 = .ok (.iconst 0, 1) := by decide +kernel
theorem dX10_beginReading_12 : decode cX10_beginReading 12 = .ok (.putfield 25, 3) := by decide +kernel
theorem dX10_beginReading_15 : decode cX10_beginReading 15 = .ok (.aload_n 0, 1) := by decide +kernel
theorem dX10_beginReading_16 : decode cX10_beginReading 16 = .ok (.invokevirtual 28, 3) := by decide +kernel
theorem dX10_beginReading_19 : decode cX10_beginReading 19 = .ok (.return_, 1) := by decide +kernel
set_option maxHeartbeats 4000000 in
set_option maxRecDepth 100000 in
theorem s_X10_beginReading (l : Launch) (dC : Nat → ClassId) (dI : Nat → Nat → Nat) (cI cZ cB cJ cM cG : ClassId) (a0 a1 : Nat) (i0 i1 i2 i3 i4 i5 i6 : Int32) (xF0 : Nat → Int32) (sz : Nat) (p_0 : (0 : Int) ≤ i0.toInt ∧ i0.toInt ≤ 1600) (p_1 : (0 : Int) ≤ i4.toInt ∧ i4.toInt ≤ 1600) (p_2 : (0 : Int) ≤ i5.toInt ∧ i5.toInt ≤ 1600) : Met l yX10_beginReading (kw yX10_beginReading cX10_beginReading 1 none) ({ frames := 2, cells := 0, slots := 0, locals := 43 } : Room) (va_Pc [.ref a0] (kPre dC dI [(cI, .int), (cZ, .boolean), (cB, .byte), (cJ, .long), (cM, .object RX2), (cG, .array .int)] [(a0, .inr (10, [.ref a1, .int i0, .int i1, .int i2, .int i3, .int i4, .int i5, .int i6])), (a1, .inl (cB, 1600, .inl xF0))] sz)) (va_Qv (fun (u9 : (Nat → Int32) × (Nat → Nat → Int32) × (Nat → Nat → Int64)) => ((0 : Int) ≤ (u9.1 3).toInt ∧ (u9.1 3).toInt ≤ 1600) ∧ ((0 : Int) ≤ (u9.1 4).toInt ∧ (u9.1 4).toInt ≤ 1600) ∧ True) (fun u9 t => va_P (dC, dI) vwCl [(a0, .inr (10, [.ref a1, .int i0, .int (u9.1 0), .int (u9.1 1), .int (u9.1 2), .int (u9.1 3), .int (u9.1 4), .int (u9.1 5)])), (a1, .inl (cB, 1600, .inl xF0))] t.heap ∧ va_D (va_A [(a0, .inr (10, [.ref a1, .int i0, .int i1, .int i2, .int i3, .int i4, .int i5, .int i6])), (a1, .inl (cB, 1600, .inl xF0))] sz) [(a0, .inr (10, [.ref a1, .int i0, .int (u9.1 0), .int (u9.1 1), .int (u9.1 2), .int (u9.1 3), .int (u9.1 4), .int (u9.1 5)])), (a1, .inl (cB, 1600, .inl xF0))]) (va_A [(a0, .inr (10, [.ref a1, .int i0, .int i1, .int i2, .int i3, .int i4, .int i5, .int i6])), (a1, .inl (cB, 1600, .inl xF0))] sz)) 0 0 (va_A [(a0, .inr (10, [.ref a1, .int i0, .int i1, .int i2, .int i3, .int i4, .int i5, .int i6])), (a1, .inl (cB, 1600, .inl xF0))] sz) := by
  refine kEnter (by decide) (Nat.le_of_ble_eq_true rfl) ?_
  intro p e s m below meth c ls hx hb hr hml hown hlocks hin hwd hsz hP hK hD hl
  subst hsz
  generalize hAe : va_A [(a0, .inr (10, [.ref a1, .int i0, .int i1, .int i2, .int i3, .int i4, .int i5, .int i6])), (a1, .inl (cB, 1600, .inl xF0))] s.heap.size = A at hD ⊢
  have hA : ∀ q : Nat, s.heap.size ≤ q → A q := fun q h => by rw [← hAe]; exact Or.inr h
  have hS : va_S A s.heap s.heap [] := va_S.rf
  have hl : lv_has ls 1 [(0, .ref a0)] := hl
  obtain ⟨Q, hQ⟩ : ∃ Q, Q = MQ below (va_Qv (fun (u9 : (Nat → Int32) × (Nat → Nat → Int32) × (Nat → Nat → Int64)) => ((0 : Int) ≤ (u9.1 3).toInt ∧ (u9.1 3).toInt ≤ 1600) ∧ ((0 : Int) ≤ (u9.1 4).toInt ∧ (u9.1 4).toInt ≤ 1600) ∧ True) (fun u9 t => va_P (dC, dI) vwCl [(a0, .inr (10, [.ref a1, .int i0, .int (u9.1 0), .int (u9.1 1), .int (u9.1 2), .int (u9.1 3), .int (u9.1 4), .int (u9.1 5)])), (a1, .inl (cB, 1600, .inl xF0))] t.heap ∧ va_D A [(a0, .inr (10, [.ref a1, .int i0, .int (u9.1 0), .int (u9.1 1), .int (u9.1 2), .int (u9.1 3), .int (u9.1 4), .int (u9.1 5)])), (a1, .inl (cB, 1600, .inl xF0))]) A) ([.ref a0] : List Value).toArray s 0 0 A := ⟨_, rfl⟩
  rw [← hQ]
  have k0 : (0 : Int32).toInt = 0 := by decide
  refine lv_aload_n hx hb dX10_beginReading_0 rfl (lv_at hl 0 rfl) ?_
  refine lv_iconst (v := 0) hx hb dX10_beginReading_1 (by decide) ?_
  refine va_put (D := (dC, dI)) (ci := 10) (v := .int 0) (ty := .int) (C := RX10) (T := TX10) (N := 8) hx hb hwd inlX10 tyX10 tyX10_ok nmX10 hown hK hP hD hS 0 rfl rfl 2 (by decide) (hwd _ kr7_0) (fun _ h9 => h9) rfl (by decide +kernel) rfl rfl (Nat.le_of_ble_eq_true rfl) dX10_beginReading_2 (fun H locs hP hD hS => ?_)
  replace hP : va_P (dC, dI) vwCl [(a0, .inr (10, [.ref a1, .int i0, .int 0, .int i2, .int i3, .int i4, .int i5, .int i6])), (a1, .inl (cB, 1600, .inl xF0))] H := hP
  replace hD : va_D A [(a0, .inr (10, [.ref a1, .int i0, .int 0, .int i2, .int i3, .int i4, .int i5, .int i6])), (a1, .inl (cB, 1600, .inl xF0))] := hD
  refine lv_aload_n hx hb dX10_beginReading_5 rfl (lv_at hl 0 rfl) ?_
  refine lv_iconst (v := (-1)) hx hb dX10_beginReading_6 (by decide) ?_
  refine va_put (D := (dC, dI)) (ci := 10) (v := .int (-1)) (ty := .int) (C := RX10) (T := TX10) (N := 8) hx hb hwd inlX10 tyX10 tyX10_ok nmX10 hown hK hP hD hS 0 rfl rfl 3 (by decide) (hwd _ kr7_3) (fun _ h9 => h9) rfl (by decide +kernel) rfl rfl (Nat.le_of_ble_eq_true rfl) dX10_beginReading_7 (fun H locs hP hD hS => ?_)
  replace hP : va_P (dC, dI) vwCl [(a0, .inr (10, [.ref a1, .int i0, .int 0, .int (-1), .int i3, .int i4, .int i5, .int i6])), (a1, .inl (cB, 1600, .inl xF0))] H := hP
  replace hD : va_D A [(a0, .inr (10, [.ref a1, .int i0, .int 0, .int (-1), .int i3, .int i4, .int i5, .int i6])), (a1, .inl (cB, 1600, .inl xF0))] := hD
  refine lv_aload_n hx hb dX10_beginReading_10 rfl (lv_at hl 0 rfl) ?_
  refine lv_iconst (v := 0) hx hb dX10_beginReading_11 (by decide) ?_
  refine va_put (D := (dC, dI)) (ci := 10) (v := .int 0) (ty := .int) (C := RX10) (T := TX10) (N := 8) hx hb hwd inlX10 tyX10 tyX10_ok nmX10 hown hK hP hD hS 0 rfl rfl 6 (by decide) (hwd _ kr7_7) (fun _ h9 => h9) rfl (by decide +kernel) rfl rfl (Nat.le_of_ble_eq_true rfl) dX10_beginReading_12 (fun H locs hP hD hS => ?_)
  replace hP : va_P (dC, dI) vwCl [(a0, .inr (10, [.ref a1, .int i0, .int 0, .int (-1), .int i3, .int i4, .int 0, .int i6])), (a1, .inl (cB, 1600, .inl xF0))] H := hP
  replace hD : va_D A [(a0, .inr (10, [.ref a1, .int i0, .int 0, .int (-1), .int i3, .int i4, .int 0, .int i6])), (a1, .inl (cB, 1600, .inl xF0))] := hD
  refine lv_aload_n hx hb dX10_beginReading_15 rfl (lv_at hl 0 rfl) ?_
  have hPc := hP.sub (ws' := [(a0, .inr (10, [.ref a1, .int i0, .int 0, .int (-1), .int i3, .int i4, .int 0, .int i6])), (a1, .inl (cB, 1600, .inl xF0))]) [0, 1] rfl
  have hDc := hD.sub (ws' := [(a0, .inr (10, [.ref a1, .int i0, .int 0, .int (-1), .int i3, .int i4, .int 0, .int i6])), (a1, .inl (cB, 1600, .inl xF0))]) [0, 1] (by decide) rfl
  have hFc := va_free (wc := [(a0, .inr (10, [.ref a1, .int i0, .int 0, .int (-1), .int i3, .int i4, .int 0, .int i6])), (a1, .inl (cB, 1600, .inl xF0))]) hD hS hA [0, 1] rfl
  refine va_callv (va_runV (As := []) (rest := []) ⟨hx, hb, hml, hown, hwd⟩ (s_X10_readToken l dC dI cI cZ cB cJ cM cG a0 a1 i0 0 (-1) i3 i4 0 i6 xF0 H.size (show (0 : Int) ≤ i0.toInt ∧ i0.toInt ≤ 1600 from p_0) (show (0 : Int) ≤ i4.toInt ∧ i4.toInt ≤ 1600 from p_1) (show (0 : Int) ≤ (0 : Int32).toInt ∧ (0 : Int32).toInt ≤ 1600 from ⟨by omega, by omega⟩)) (cwV 0 hwd (gV kr18_1 kr18_2 kr18_3 kr5_12 kr18_4) rfl rfl rfl (by decide +kernel) ⟨Nat.le_of_ble_eq_true rfl, Nat.le_of_ble_eq_true rfl⟩) (kPreV hPc hK hDc (ci := 10) (q0 := 0) rfl rfl) rfl rfl hl.1 rfl (lv_room (Nat.le_of_ble_eq_true rfl)) dX10_beginReading_16 ⟨Nat.le_of_ble_eq_true rfl, Nat.le_of_ble_eq_true rfl⟩) hS (fun q _ h => hFc q h) hFc (fun u2 t H1 locs ht9 hvm hw hB hz1 hk1 hS => ?_)
  obtain ⟨u3, U3, V3⟩ := u2
  obtain ⟨hw4, hw5, -⟩ := hw
  replace hw4 : (0 : Int) ≤ (u3 1).toInt ∧ (u3 1).toInt ≤ 1600 := hw4
  replace hw5 : (0 : Int) ≤ (u3 2).toInt ∧ (u3 2).toInt ≤ 1600 := hw5
  obtain ⟨hP1, hD1⟩ := hB
  rw [ht9] at hP1
  obtain ⟨hP, hD⟩ := va_join (wr := []) (w1 := [(a0, .inr (10, [.ref a1, .int i0, .int 0, .int (-1), .int (u3 0), .int (u3 1), .int (u3 2), .int (u3 3)])), (a1, .inl (cB, 1600, .inl xF0))]) hP hD [0, 1] [] rfl rfl (by decide) (by decide) hk1 hFc hP1 hD1
  generalize H1 = H at hP hS ⊢
  replace hP : va_P (dC, dI) vwCl [(a0, .inr (10, [.ref a1, .int i0, .int 0, .int (-1), .int (u3 0), .int (u3 1), .int (u3 2), .int (u3 3)])), (a1, .inl (cB, 1600, .inl xF0))] H := hP
  replace hD : va_D A [(a0, .inr (10, [.ref a1, .int i0, .int 0, .int (-1), .int (u3 0), .int (u3 1), .int (u3 2), .int (u3 3)])), (a1, .inl (cB, 1600, .inl xF0))] := hD
  have hP9 := hP.sub (ws' := [(a0, .inr (10, [.ref a1, .int i0, .int 0, .int (-1), .int (u3 0), .int (u3 1), .int (u3 2), .int (u3 3)])), (a1, .inl (cB, 1600, .inl xF0))]) [0, 1] rfl
  have hD9 := hD.sub (ws' := [(a0, .inr (10, [.ref a1, .int i0, .int 0, .int (-1), .int (u3 0), .int (u3 1), .int (u3 2), .int (u3 3)])), (a1, .inl (cB, 1600, .inl xF0))]) [0, 1] (by decide) rfl
  rw [hQ]
  exact W.vret hx hb hr (fun t ht hW => ⟨⟨(pickG 0 [0, (-1), (u3 0), (u3 1), (u3 2), (u3 3)], pickG (fun _ => 0) [], pickG (fun _ => 0) []), rfl, ⟨(show (0 : Int) ≤ (u3 1).toInt ∧ (u3 1).toInt ≤ 1600 from hw4), (show (0 : Int) ≤ (u3 2).toInt ∧ (u3 2).toInt ≤ 1600 from hw5), trivial⟩, (by rw [ht]; exact hP9), hD9⟩, hS.F ht⟩) hS.2.2 dX10_beginReading_19
theorem dX10_isSign_0 : decode cX10_isSign 0 = .ok (.aload_n 0, 1) := by decide +kernel
theorem dX10_isSign_1 : decode cX10_isSign 1 = .ok (.getfield 31, 3) := by decide +kernel
theorem dX10_isSign_4 : decode cX10_isSign 4 = .ok (.iconst 3, 1) := by decide +kernel
theorem dX10_isSign_5 : decode cX10_isSign 5 = .ok (.if_icmp .ne 19, 3) := by decide +kernel
theorem dX10_isSign_8 : decode cX10_isSign 8 = .ok (.aload_n 0, 1) := by decide +kernel
theorem dX10_isSign_9 : decode cX10_isSign 9 = .ok (.aload_n 0, 1) := by decide +kernel
theorem dX10_isSign_10 : decode cX10_isSign 10 = .ok (.getfield 34, 3) := by decide +kernel
theorem dX10_isSign_13 : decode cX10_isSign 13 = .ok (.invokevirtual 41, 3) := by decide +kernel
theorem dX10_isSign_16 : decode cX10_isSign 16 = .ok (.iload_n 1, 1) := by decide +kernel
theorem dX10_isSign_17 : decode cX10_isSign 17 = .ok (.if_icmp .ne 7, 3) := by decide +kernel
theorem dX10_isSign_20 : decode cX10_isSign 20 = .ok (.iconst 1, 1) := by decide +kernel
theorem dX10_isSign_21 : decode cX10_isSign 21 = .ok (.goto 4, 3) := by decide +kernel
theorem dX10_isSign_24 : decode cX10_isSign 24 = .ok (.iconst 0, 1) := by decide +kernel
theorem dX10_isSign_25 : decode cX10_isSign 25 = .ok (.ireturn, 1) := by decide +kernel
set_option maxHeartbeats 4000000 in
set_option maxRecDepth 100000 in
theorem s_X10_isSign (l : Launch) (dC : Nat → ClassId) (dI : Nat → Nat → Nat) (cI cZ cB cJ cM cG : ClassId) (a0 a1 : Nat) (i0 i1 i2 i3 i4 i5 i6 : Int32) (xF0 : Nat → Int32) (p0 : Int32) (sz : Nat) (p_0 : (0 : Int) ≤ i0.toInt ∧ i0.toInt ≤ 1600) (p_1 : (0 : Int) ≤ i4.toInt ∧ i4.toInt ≤ 1600) (p_2 : (0 : Int) ≤ i5.toInt ∧ i5.toInt ≤ 1600) : Met l yX10_isSign (kw yX10_isSign cX10_isSign 2 (some .boolean)) ({ frames := 1, cells := 0, slots := 0, locals := 21 } : Room) (va_Pc [.ref a0, .int p0] (kPre dC dI [(cI, .int), (cZ, .boolean), (cB, .byte), (cJ, .long), (cM, .object RX2), (cG, .array .int)] [(a0, .inr (10, [.ref a1, .int i0, .int i1, .int i2, .int i3, .int i4, .int i5, .int i6])), (a1, .inl (cB, 1600, .inl xF0))] sz)) (va_Qi (fun (r : Int32) (u9 : Unit) => ((0 : Int) ≤ r.toInt ∧ r.toInt ≤ 1) ∧ True) (fun u9 t => va_P (dC, dI) vwCl [(a0, .inr (10, [.ref a1, .int i0, .int i1, .int i2, .int i3, .int i4, .int i5, .int i6])), (a1, .inl (cB, 1600, .inl xF0))] t.heap ∧ va_D (va_A [(a0, .inr (10, [.ref a1, .int i0, .int i1, .int i2, .int i3, .int i4, .int i5, .int i6])), (a1, .inl (cB, 1600, .inl xF0))] sz) [(a0, .inr (10, [.ref a1, .int i0, .int i1, .int i2, .int i3, .int i4, .int i5, .int i6])), (a1, .inl (cB, 1600, .inl xF0))]) (va_A [(a0, .inr (10, [.ref a1, .int i0, .int i1, .int i2, .int i3, .int i4, .int i5, .int i6])), (a1, .inl (cB, 1600, .inl xF0))] sz)) 0 0 (va_A [(a0, .inr (10, [.ref a1, .int i0, .int i1, .int i2, .int i3, .int i4, .int i5, .int i6])), (a1, .inl (cB, 1600, .inl xF0))] sz) := by
  refine kEnter (by decide) (Nat.le_of_ble_eq_true rfl) ?_
  intro p e s m below meth c ls hx hb hr hml hown hlocks hin hwd hsz hP hK hD hl
  subst hsz
  generalize hAe : va_A [(a0, .inr (10, [.ref a1, .int i0, .int i1, .int i2, .int i3, .int i4, .int i5, .int i6])), (a1, .inl (cB, 1600, .inl xF0))] s.heap.size = A at hD ⊢
  have hA : ∀ q : Nat, s.heap.size ≤ q → A q := fun q h => by rw [← hAe]; exact Or.inr h
  have hS : va_S A s.heap s.heap [] := va_S.rf
  have hl : lv_has ls 2 [(0, .ref a0), (1, .int p0)] := hl
  obtain ⟨Q, hQ⟩ : ∃ Q, Q = MQ below (va_Qi (fun (r : Int32) (u9 : Unit) => ((0 : Int) ≤ r.toInt ∧ r.toInt ≤ 1) ∧ True) (fun u9 t => va_P (dC, dI) vwCl [(a0, .inr (10, [.ref a1, .int i0, .int i1, .int i2, .int i3, .int i4, .int i5, .int i6])), (a1, .inl (cB, 1600, .inl xF0))] t.heap ∧ va_D A [(a0, .inr (10, [.ref a1, .int i0, .int i1, .int i2, .int i3, .int i4, .int i5, .int i6])), (a1, .inl (cB, 1600, .inl xF0))]) A) ([.ref a0, .int p0] : List Value).toArray s 0 0 A := ⟨_, rfl⟩
  rw [← hQ]
  have k0 : (0 : Int32).toInt = 0 := by decide
  have k1 : (1 : Int32).toInt = 1 := by decide
  have k3 : (3 : Int32).toInt = 3 := by decide
  refine lv_aload_n hx hb dX10_isSign_0 rfl (lv_at hl 0 rfl) ?_
  refine va_get (D := (dC, dI)) (ci := 10) (v := .int i3) (C := RX10) (T := TX10) (N := 8) hx hb hwd inlX10 hown hK hP 0 rfl rfl 4 (by decide) (hwd _ kr7_5) (fun _ h9 => h9) rfl dX10_isSign_1 ?_
  refine lv_iconst (v := 3) hx hb dX10_isSign_4 (by decide) ?_
  refine lv_icmp_ne (tgt := 24) hx hb dX10_isSign_5 (by decide) (fun c1 => ?_) (fun c1 => ?_)
  · rw [ki_eq] at c1
    refine lv_iconst (v := 0) hx hb dX10_isSign_24 (by decide) ?_
    have hP9 := hP.sub (ws' := [(a0, .inr (10, [.ref a1, .int i0, .int i1, .int i2, .int i3, .int i4, .int i5, .int i6])), (a1, .inl (cB, 1600, .inl xF0))]) [0, 1] rfl
    have hD9 := hD.sub (ws' := [(a0, .inr (10, [.ref a1, .int i0, .int i1, .int i2, .int i3, .int i4, .int i5, .int i6])), (a1, .inl (cB, 1600, .inl xF0))]) [0, 1] (by decide) rfl
    rw [hQ]
    exact W.zret (v := 0) hx hb hr (by decide) (fun t ht hW => ⟨⟨0, (), rfl, ⟨(show (0 : Int) ≤ (0 : Int32).toInt ∧ (0 : Int32).toInt ≤ 1 from ⟨by omega, by omega⟩), trivial⟩, (by rw [ht]; exact hP9), hD9⟩, hS.F ht⟩) hS.2.2 dX10_isSign_25
  · rw [ki_eq] at c1
    refine lv_aload_n hx hb dX10_isSign_8 rfl (lv_at hl 0 rfl) ?_
    refine lv_aload_n hx hb dX10_isSign_9 rfl (lv_at hl 0 rfl) ?_
    refine va_get (D := (dC, dI)) (ci := 10) (v := .int i4) (C := RX10) (T := TX10) (N := 8) hx hb hwd inlX10 hown hK hP 0 rfl rfl 5 (by decide) (hwd _ kr7_6) (fun _ h9 => h9) rfl dX10_isSign_10 ?_
    have hPc := hP.sub (ws' := [(a0, .inr (10, [.ref a1, .int i0, .int i1, .int i2, .int i3, .int i4, .int i5, .int i6])), (a1, .inl (cB, 1600, .inl xF0))]) [0, 1] rfl
    have hDc := hD.sub (ws' := [(a0, .inr (10, [.ref a1, .int i0, .int i1, .int i2, .int i3, .int i4, .int i5, .int i6])), (a1, .inl (cB, 1600, .inl xF0))]) [0, 1] (by decide) rfl
    have hFc := va_free (wc := [(a0, .inr (10, [.ref a1, .int i0, .int i1, .int i2, .int i3, .int i4, .int i5, .int i6])), (a1, .inl (cB, 1600, .inl xF0))]) hD hS hA [0, 1] rfl
    refine va_calli (va_runV (As := [.int i4]) (rest := []) ⟨hx, hb, hml, hown, hwd⟩ (s_X10_byteAt l dC dI cI cZ cB cJ cM cG a0 a1 i0 i1 i2 i3 i4 i5 i6 xF0 i4 s.heap.size (show (0 : Int) ≤ i0.toInt ∧ i0.toInt ≤ 1600 from p_0) (show (0 : Int) ≤ i4.toInt ∧ i4.toInt ≤ 1600 from p_1) (show (0 : Int) ≤ i5.toInt ∧ i5.toInt ≤ 1600 from p_2)) (cwV 1 hwd (gV kr18_8 kr18_9 kr1_1 kr5_12 kr18_10) rfl rfl rfl (by decide +kernel) ⟨Nat.le_of_ble_eq_true rfl, Nat.le_of_ble_eq_true rfl⟩) (kPreV hPc hK hDc (ci := 10) (q0 := 0) rfl rfl) rfl rfl hl.1 rfl (lv_room (Nat.le_of_ble_eq_true rfl)) dX10_isSign_13 ⟨Nat.le_of_ble_eq_true rfl, Nat.le_of_ble_eq_true rfl⟩) hS (fun q _ h => hFc q h) hFc (fun r2 u3 t H1 locs ht9 hvm hw hB hz1 hk1 hS => ?_)
    obtain ⟨hw4, hw5, -⟩ := hw
    replace hw4 : (-1 : Int) ≤ r2.toInt ∧ r2.toInt ≤ 255 := hw4
    obtain ⟨hP1, hD1⟩ := hB
    rw [ht9] at hP1
    obtain ⟨hP, hD⟩ := va_join (wr := []) (w1 := [(a0, .inr (10, [.ref a1, .int i0, .int i1, .int i2, .int i3, .int i4, .int i5, .int i6])), (a1, .inl (cB, 1600, .inl xF0))]) hP hD [0, 1] [] rfl rfl (by decide) (by decide) hk1 hFc hP1 hD1
    generalize H1 = H at hP hS ⊢
    replace hP : va_P (dC, dI) vwCl [(a0, .inr (10, [.ref a1, .int i0, .int i1, .int i2, .int i3, .int i4, .int i5, .int i6])), (a1, .inl (cB, 1600, .inl xF0))] H := hP
    replace hD : va_D A [(a0, .inr (10, [.ref a1, .int i0, .int i1, .int i2, .int i3, .int i4, .int i5, .int i6])), (a1, .inl (cB, 1600, .inl xF0))] := hD
    refine lv_iload_n hx hb dX10_isSign_16 rfl (lv_at hl 1 rfl) ?_
    refine lv_icmp_ne (tgt := 24) hx hb dX10_isSign_17 (by decide) (fun c6 => ?_) (fun c6 => ?_)
    · rw [ki_eq] at c6
      refine lv_iconst (v := 0) hx hb dX10_isSign_24 (by decide) ?_
      have hP9 := hP.sub (ws' := [(a0, .inr (10, [.ref a1, .int i0, .int i1, .int i2, .int i3, .int i4, .int i5, .int i6])), (a1, .inl (cB, 1600, .inl xF0))]) [0, 1] rfl
      have hD9 := hD.sub (ws' := [(a0, .inr (10, [.ref a1, .int i0, .int i1, .int i2, .int i3, .int i4, .int i5, .int i6])), (a1, .inl (cB, 1600, .inl xF0))]) [0, 1] (by decide) rfl
      rw [hQ]
      exact W.zret (v := 0) hx hb hr (by decide) (fun t ht hW => ⟨⟨0, (), rfl, ⟨(show (0 : Int) ≤ (0 : Int32).toInt ∧ (0 : Int32).toInt ≤ 1 from ⟨by omega, by omega⟩), trivial⟩, (by rw [ht]; exact hP9), hD9⟩, hS.F ht⟩) hS.2.2 dX10_isSign_25
    · rw [ki_eq] at c6
      refine lv_iconst (v := 1) hx hb dX10_isSign_20 (by decide) ?_
      refine lv_goto (tgt := 25) hx hb dX10_isSign_21 (by decide) ?_
      have hP9 := hP.sub (ws' := [(a0, .inr (10, [.ref a1, .int i0, .int i1, .int i2, .int i3, .int i4, .int i5, .int i6])), (a1, .inl (cB, 1600, .inl xF0))]) [0, 1] rfl
      have hD9 := hD.sub (ws' := [(a0, .inr (10, [.ref a1, .int i0, .int i1, .int i2, .int i3, .int i4, .int i5, .int i6])), (a1, .inl (cB, 1600, .inl xF0))]) [0, 1] (by decide) rfl
      rw [hQ]
      exact W.zret (v := 1) hx hb hr (by decide) (fun t ht hW => ⟨⟨1, (), rfl, ⟨(show (0 : Int) ≤ (1 : Int32).toInt ∧ (1 : Int32).toInt ≤ 1 from ⟨by omega, by omega⟩), trivial⟩, (by rw [ht]; exact hP9), hD9⟩, hS.F ht⟩) hS.2.2 dX10_isSign_25
theorem dX10_takeSign_0 : decode cX10_takeSign 0 = .ok (.aload_n 0, 1) := by decide +kernel
theorem dX10_takeSign_1 : decode cX10_takeSign 1 = .ok (.getfield 22, 3) := by decide +kernel
theorem dX10_takeSign_4 : decode cX10_takeSign 4 = .ok (.ifCond .eq 4, 3) := by decide +kernel
theorem dX10_takeSign_7 : decode cX10_takeSign 7 = .ok (.return_, 1) := by decide +kernel
theorem dX10_takeSign_8 : decode cX10_takeSign 8 = .ok (.aload_n 0, 1) := by decide +kernel
theorem dX10_takeSign_9 : decode cX10_takeSign 9 = .ok (.iload_n 1, 1) := by decide +kernel
theorem dX10_takeSign_10 : decode cX10_takeSign 10 = .ok (.invokevirtual 74, 3) := by decide +kernel
theorem dX10_takeSign_13 : decode cX10_takeSign 13 = .ok (.ifCond .eq 10, 3) := by decide +kernel
theorem dX10_takeSign_16 : decode cX10_takeSign 16 = .ok (.aload_n 0, 1) := by decide +kernel
theorem dX10_takeSign_17 : decode cX10_takeSign 17 = .ok (.invokevirtual 28, 3) := by decide +kernel
theorem dX10_takeSign_20 : decode cX10_takeSign 20 = .ok (.goto 8, 3) := by decide +kernel
theorem dX10_takeSign_23 : decode cX10_takeSign 23 = .ok (.aload_n 0, 1) := by decide +kernel
theorem dX10_takeSign_24 : decode cX10_takeSign 24 = .ok (.iconst 1, 1) := by decide +kernel
theorem dX10_takeSign_25 : decode cX10_takeSign 25 = .ok (.invokevirtual 70, 3) := by decide +kernel
theorem dX10_takeSign_28 : decode cX10_takeSign 28 = .ok (.return_, 1) := by decide +kernel
set_option maxHeartbeats 4000000 in
set_option maxRecDepth 100000 in
theorem s_X10_takeSign (l : Launch) (dC : Nat → ClassId) (dI : Nat → Nat → Nat) (cI cZ cB cJ cM cG : ClassId) (a0 a1 : Nat) (i0 i1 i2 i3 i4 i5 i6 : Int32) (xF0 : Nat → Int32) (p0 : Int32) (sz : Nat) (p_0 : (0 : Int) ≤ i0.toInt ∧ i0.toInt ≤ 1600) (p_1 : (0 : Int) ≤ i4.toInt ∧ i4.toInt ≤ 1600) (p_2 : (0 : Int) ≤ i5.toInt ∧ i5.toInt ≤ 1600) : Met l yX10_takeSign (kw yX10_takeSign cX10_takeSign 2 none) ({ frames := 2, cells := 0, slots := 0, locals := 43 } : Room) (va_Pc [.ref a0, .int p0] (kPre dC dI [(cI, .int), (cZ, .boolean), (cB, .byte), (cJ, .long), (cM, .object RX2), (cG, .array .int)] [(a0, .inr (10, [.ref a1, .int i0, .int i1, .int i2, .int i3, .int i4, .int i5, .int i6])), (a1, .inl (cB, 1600, .inl xF0))] sz)) (va_Qv (fun (u9 : (Nat → Int32) × (Nat → Nat → Int32) × (Nat → Nat → Int64)) => ((0 : Int) ≤ (u9.1 3).toInt ∧ (u9.1 3).toInt ≤ 1600) ∧ ((0 : Int) ≤ (u9.1 4).toInt ∧ (u9.1 4).toInt ≤ 1600) ∧ True) (fun u9 t => va_P (dC, dI) vwCl [(a0, .inr (10, [.ref a1, .int i0, .int (u9.1 0), .int (u9.1 1), .int (u9.1 2), .int (u9.1 3), .int (u9.1 4), .int (u9.1 5)])), (a1, .inl (cB, 1600, .inl xF0))] t.heap ∧ va_D (va_A [(a0, .inr (10, [.ref a1, .int i0, .int i1, .int i2, .int i3, .int i4, .int i5, .int i6])), (a1, .inl (cB, 1600, .inl xF0))] sz) [(a0, .inr (10, [.ref a1, .int i0, .int (u9.1 0), .int (u9.1 1), .int (u9.1 2), .int (u9.1 3), .int (u9.1 4), .int (u9.1 5)])), (a1, .inl (cB, 1600, .inl xF0))]) (va_A [(a0, .inr (10, [.ref a1, .int i0, .int i1, .int i2, .int i3, .int i4, .int i5, .int i6])), (a1, .inl (cB, 1600, .inl xF0))] sz)) 0 0 (va_A [(a0, .inr (10, [.ref a1, .int i0, .int i1, .int i2, .int i3, .int i4, .int i5, .int i6])), (a1, .inl (cB, 1600, .inl xF0))] sz) := by
  refine kEnter (by decide) (Nat.le_of_ble_eq_true rfl) ?_
  intro p e s m below meth c ls hx hb hr hml hown hlocks hin hwd hsz hP hK hD hl
  subst hsz
  generalize hAe : va_A [(a0, .inr (10, [.ref a1, .int i0, .int i1, .int i2, .int i3, .int i4, .int i5, .int i6])), (a1, .inl (cB, 1600, .inl xF0))] s.heap.size = A at hD ⊢
  have hA : ∀ q : Nat, s.heap.size ≤ q → A q := fun q h => by rw [← hAe]; exact Or.inr h
  have hS : va_S A s.heap s.heap [] := va_S.rf
  have hl : lv_has ls 2 [(0, .ref a0), (1, .int p0)] := hl
  obtain ⟨Q, hQ⟩ : ∃ Q, Q = MQ below (va_Qv (fun (u9 : (Nat → Int32) × (Nat → Nat → Int32) × (Nat → Nat → Int64)) => ((0 : Int) ≤ (u9.1 3).toInt ∧ (u9.1 3).toInt ≤ 1600) ∧ ((0 : Int) ≤ (u9.1 4).toInt ∧ (u9.1 4).toInt ≤ 1600) ∧ True) (fun u9 t => va_P (dC, dI) vwCl [(a0, .inr (10, [.ref a1, .int i0, .int (u9.1 0), .int (u9.1 1), .int (u9.1 2), .int (u9.1 3), .int (u9.1 4), .int (u9.1 5)])), (a1, .inl (cB, 1600, .inl xF0))] t.heap ∧ va_D A [(a0, .inr (10, [.ref a1, .int i0, .int (u9.1 0), .int (u9.1 1), .int (u9.1 2), .int (u9.1 3), .int (u9.1 4), .int (u9.1 5)])), (a1, .inl (cB, 1600, .inl xF0))]) A) ([.ref a0, .int p0] : List Value).toArray s 0 0 A := ⟨_, rfl⟩
  rw [← hQ]
  have k0 : (0 : Int32).toInt = 0 := by decide
  refine lv_aload_n hx hb dX10_takeSign_0 rfl (lv_at hl 0 rfl) ?_
  refine va_get (D := (dC, dI)) (ci := 10) (v := .int i1) (C := RX10) (T := TX10) (N := 8) hx hb hwd inlX10 hown hK hP 0 rfl rfl 2 (by decide) (hwd _ kr7_0) (fun _ h9 => h9) rfl dX10_takeSign_1 ?_
  refine lv_if_eq (tgt := 8) hx hb dX10_takeSign_4 (by decide) (fun c1 => ?_) (fun c1 => ?_)
  · rw [ki_eq] at c1
    refine lv_aload_n hx hb dX10_takeSign_8 rfl (lv_at hl 0 rfl) ?_
    refine lv_iload_n hx hb dX10_takeSign_9 rfl (lv_at hl 1 rfl) ?_
    have hPc := hP.sub (ws' := [(a0, .inr (10, [.ref a1, .int i0, .int i1, .int i2, .int i3, .int i4, .int i5, .int i6])), (a1, .inl (cB, 1600, .inl xF0))]) [0, 1] rfl
    have hDc := hD.sub (ws' := [(a0, .inr (10, [.ref a1, .int i0, .int i1, .int i2, .int i3, .int i4, .int i5, .int i6])), (a1, .inl (cB, 1600, .inl xF0))]) [0, 1] (by decide) rfl
    have hFc := va_free (wc := [(a0, .inr (10, [.ref a1, .int i0, .int i1, .int i2, .int i3, .int i4, .int i5, .int i6])), (a1, .inl (cB, 1600, .inl xF0))]) hD hS hA [0, 1] rfl
    refine va_calli (va_runV (As := [.int p0]) (rest := []) ⟨hx, hb, hml, hown, hwd⟩ (s_X10_isSign l dC dI cI cZ cB cJ cM cG a0 a1 i0 i1 i2 i3 i4 i5 i6 xF0 p0 s.heap.size (show (0 : Int) ≤ i0.toInt ∧ i0.toInt ≤ 1600 from p_0) (show (0 : Int) ≤ i4.toInt ∧ i4.toInt ≤ 1600 from p_1) (show (0 : Int) ≤ i5.toInt ∧ i5.toInt ≤ 1600 from p_2)) (cwV 1 hwd (gV kr24_0 kr24_1 kr24_2 kr5_12 kr24_3) rfl rfl rfl (by decide +kernel) ⟨Nat.le_of_ble_eq_true rfl, Nat.le_of_ble_eq_true rfl⟩) (kPreV hPc hK hDc (ci := 10) (q0 := 0) rfl rfl) rfl rfl hl.1 rfl (lv_room (Nat.le_of_ble_eq_true rfl)) dX10_takeSign_10 ⟨Nat.le_of_ble_eq_true rfl, Nat.le_of_ble_eq_true rfl⟩) hS (fun q _ h => hFc q h) hFc (fun r2 u3 t H1 locs ht9 hvm hw hB hz1 hk1 hS => ?_)
    obtain ⟨hw4, -⟩ := hw
    replace hw4 : (0 : Int) ≤ r2.toInt ∧ r2.toInt ≤ 1 := hw4
    obtain ⟨hP1, hD1⟩ := hB
    rw [ht9] at hP1
    obtain ⟨hP, hD⟩ := va_join (wr := []) (w1 := [(a0, .inr (10, [.ref a1, .int i0, .int i1, .int i2, .int i3, .int i4, .int i5, .int i6])), (a1, .inl (cB, 1600, .inl xF0))]) hP hD [0, 1] [] rfl rfl (by decide) (by decide) hk1 hFc hP1 hD1
    generalize H1 = H at hP hS ⊢
    replace hP : va_P (dC, dI) vwCl [(a0, .inr (10, [.ref a1, .int i0, .int i1, .int i2, .int i3, .int i4, .int i5, .int i6])), (a1, .inl (cB, 1600, .inl xF0))] H := hP
    replace hD : va_D A [(a0, .inr (10, [.ref a1, .int i0, .int i1, .int i2, .int i3, .int i4, .int i5, .int i6])), (a1, .inl (cB, 1600, .inl xF0))] := hD
    refine lv_if_eq (tgt := 23) hx hb dX10_takeSign_13 (by decide) (fun c5 => ?_) (fun c5 => ?_)
    · rw [ki_eq] at c5
      refine lv_aload_n hx hb dX10_takeSign_23 rfl (lv_at hl 0 rfl) ?_
      refine lv_iconst (v := 1) hx hb dX10_takeSign_24 (by decide) ?_
      have hPc := hP.sub (ws' := [(a0, .inr (10, [.ref a1, .int i0, .int i1, .int i2, .int i3, .int i4, .int i5, .int i6]))]) [0] rfl
      have hDc := hD.sub (ws' := [(a0, .inr (10, [.ref a1, .int i0, .int i1, .int i2, .int i3, .int i4, .int i5, .int i6]))]) [0] (by decide) rfl
      have hFc := va_free (wc := [(a0, .inr (10, [.ref a1, .int i0, .int i1, .int i2, .int i3, .int i4, .int i5, .int i6]))]) hD hS hA [0] rfl
      refine va_callv (va_runV (As := [.int 1]) (rest := []) ⟨hx, hb, hml, hown, hwd⟩ (s_X10_blame l dC dI cI cZ cB cJ cM cG a0 a1 i0 i1 i2 i3 i4 i5 i6 1 H.size (show (0 : Int) ≤ i0.toInt ∧ i0.toInt ≤ 1600 from p_0) (show (0 : Int) ≤ i4.toInt ∧ i4.toInt ≤ 1600 from p_1) (show (0 : Int) ≤ i5.toInt ∧ i5.toInt ≤ 1600 from p_2)) (cwV 1 hwd (gV kr21_17 kr21_18 kr21_19 kr5_12 kr21_20) rfl rfl rfl (by decide +kernel) ⟨Nat.le_of_ble_eq_true rfl, Nat.le_of_ble_eq_true rfl⟩) (kPreV hPc hK hDc (ci := 10) (q0 := 0) rfl rfl) rfl rfl hl.1 rfl (lv_room (Nat.le_of_ble_eq_true rfl)) dX10_takeSign_25 ⟨Nat.le_of_ble_eq_true rfl, Nat.le_of_ble_eq_true rfl⟩) hS (fun q _ h => hFc q h) hFc (fun u7 t H1 locs ht9 hvm hw hB hz1 hk1 hS => ?_)
      obtain ⟨u8, U8, V8⟩ := u7
      obtain ⟨hP1, hD1⟩ := hB
      rw [ht9] at hP1
      obtain ⟨hP, hD⟩ := va_join (wr := [(a1, .inl (cB, 1600, .inl xF0))]) (w1 := [(a0, .inr (10, [.ref a1, .int i0, .int (u8 0), .int (u8 1), .int i3, .int i4, .int i5, .int i6]))]) hP hD [0] [1] rfl rfl (by decide) (by decide) hk1 hFc hP1 hD1
      generalize H1 = H at hP hS ⊢
      replace hP : va_P (dC, dI) vwCl [(a1, .inl (cB, 1600, .inl xF0)), (a0, .inr (10, [.ref a1, .int i0, .int (u8 0), .int (u8 1), .int i3, .int i4, .int i5, .int i6]))] H := hP
      replace hD : va_D A [(a1, .inl (cB, 1600, .inl xF0)), (a0, .inr (10, [.ref a1, .int i0, .int (u8 0), .int (u8 1), .int i3, .int i4, .int i5, .int i6]))] := hD
      have hP9 := hP.sub (ws' := [(a0, .inr (10, [.ref a1, .int i0, .int (u8 0), .int (u8 1), .int i3, .int i4, .int i5, .int i6])), (a1, .inl (cB, 1600, .inl xF0))]) [1, 0] rfl
      have hD9 := hD.sub (ws' := [(a0, .inr (10, [.ref a1, .int i0, .int (u8 0), .int (u8 1), .int i3, .int i4, .int i5, .int i6])), (a1, .inl (cB, 1600, .inl xF0))]) [1, 0] (by decide) rfl
      rw [hQ]
      exact W.vret hx hb hr (fun t ht hW => ⟨⟨(pickG 0 [(u8 0), (u8 1), i3, i4, i5, i6], pickG (fun _ => 0) [], pickG (fun _ => 0) []), rfl, ⟨(show (0 : Int) ≤ i4.toInt ∧ i4.toInt ≤ 1600 from p_1), (show (0 : Int) ≤ i5.toInt ∧ i5.toInt ≤ 1600 from p_2), trivial⟩, (by rw [ht]; exact hP9), hD9⟩, hS.F ht⟩) hS.2.2 dX10_takeSign_28
    · rw [ki_eq] at c5
      refine lv_aload_n hx hb dX10_takeSign_16 rfl (lv_at hl 0 rfl) ?_
      have hPc := hP.sub (ws' := [(a0, .inr (10, [.ref a1, .int i0, .int i1, .int i2, .int i3, .int i4, .int i5, .int i6])), (a1, .inl (cB, 1600, .inl xF0))]) [0, 1] rfl
      have hDc := hD.sub (ws' := [(a0, .inr (10, [.ref a1, .int i0, .int i1, .int i2, .int i3, .int i4, .int i5, .int i6])), (a1, .inl (cB, 1600, .inl xF0))]) [0, 1] (by decide) rfl
      have hFc := va_free (wc := [(a0, .inr (10, [.ref a1, .int i0, .int i1, .int i2, .int i3, .int i4, .int i5, .int i6])), (a1, .inl (cB, 1600, .inl xF0))]) hD hS hA [0, 1] rfl
      refine va_callv (va_runV (As := []) (rest := []) ⟨hx, hb, hml, hown, hwd⟩ (s_X10_readToken l dC dI cI cZ cB cJ cM cG a0 a1 i0 i1 i2 i3 i4 i5 i6 xF0 H.size (show (0 : Int) ≤ i0.toInt ∧ i0.toInt ≤ 1600 from p_0) (show (0 : Int) ≤ i4.toInt ∧ i4.toInt ≤ 1600 from p_1) (show (0 : Int) ≤ i5.toInt ∧ i5.toInt ≤ 1600 from p_2)) (cwV 0 hwd (gV kr18_1 kr18_2 kr18_3 kr5_12 kr18_4) rfl rfl rfl (by decide +kernel) ⟨Nat.le_of_ble_eq_true rfl, Nat.le_of_ble_eq_true rfl⟩) (kPreV hPc hK hDc (ci := 10) (q0 := 0) rfl rfl) rfl rfl hl.1 rfl (lv_room (Nat.le_of_ble_eq_true rfl)) dX10_takeSign_17 ⟨Nat.le_of_ble_eq_true rfl, Nat.le_of_ble_eq_true rfl⟩) hS (fun q _ h => hFc q h) hFc (fun u10 t H1 locs ht9 hvm hw hB hz1 hk1 hS => ?_)
      obtain ⟨u11, U11, V11⟩ := u10
      obtain ⟨hw12, hw13, -⟩ := hw
      replace hw12 : (0 : Int) ≤ (u11 1).toInt ∧ (u11 1).toInt ≤ 1600 := hw12
      replace hw13 : (0 : Int) ≤ (u11 2).toInt ∧ (u11 2).toInt ≤ 1600 := hw13
      obtain ⟨hP1, hD1⟩ := hB
      rw [ht9] at hP1
      obtain ⟨hP, hD⟩ := va_join (wr := []) (w1 := [(a0, .inr (10, [.ref a1, .int i0, .int i1, .int i2, .int (u11 0), .int (u11 1), .int (u11 2), .int (u11 3)])), (a1, .inl (cB, 1600, .inl xF0))]) hP hD [0, 1] [] rfl rfl (by decide) (by decide) hk1 hFc hP1 hD1
      generalize H1 = H at hP hS ⊢
      replace hP : va_P (dC, dI) vwCl [(a0, .inr (10, [.ref a1, .int i0, .int i1, .int i2, .int (u11 0), .int (u11 1), .int (u11 2), .int (u11 3)])), (a1, .inl (cB, 1600, .inl xF0))] H := hP
      replace hD : va_D A [(a0, .inr (10, [.ref a1, .int i0, .int i1, .int i2, .int (u11 0), .int (u11 1), .int (u11 2), .int (u11 3)])), (a1, .inl (cB, 1600, .inl xF0))] := hD
      refine lv_goto (tgt := 28) hx hb dX10_takeSign_20 (by decide) ?_
      have hP9 := hP.sub (ws' := [(a0, .inr (10, [.ref a1, .int i0, .int i1, .int i2, .int (u11 0), .int (u11 1), .int (u11 2), .int (u11 3)])), (a1, .inl (cB, 1600, .inl xF0))]) [0, 1] rfl
      have hD9 := hD.sub (ws' := [(a0, .inr (10, [.ref a1, .int i0, .int i1, .int i2, .int (u11 0), .int (u11 1), .int (u11 2), .int (u11 3)])), (a1, .inl (cB, 1600, .inl xF0))]) [0, 1] (by decide) rfl
      rw [hQ]
      exact W.vret hx hb hr (fun t ht hW => ⟨⟨(pickG 0 [i1, i2, (u11 0), (u11 1), (u11 2), (u11 3)], pickG (fun _ => 0) [], pickG (fun _ => 0) []), rfl, ⟨(show (0 : Int) ≤ (u11 1).toInt ∧ (u11 1).toInt ≤ 1600 from hw12), (show (0 : Int) ≤ (u11 2).toInt ∧ (u11 2).toInt ≤ 1600 from hw13), trivial⟩, (by rw [ht]; exact hP9), hD9⟩, hS.F ht⟩) hS.2.2 dX10_takeSign_28
  · rw [ki_eq] at c1
    have hP9 := hP.sub (ws' := [(a0, .inr (10, [.ref a1, .int i0, .int i1, .int i2, .int i3, .int i4, .int i5, .int i6])), (a1, .inl (cB, 1600, .inl xF0))]) [0, 1] rfl
    have hD9 := hD.sub (ws' := [(a0, .inr (10, [.ref a1, .int i0, .int i1, .int i2, .int i3, .int i4, .int i5, .int i6])), (a1, .inl (cB, 1600, .inl xF0))]) [0, 1] (by decide) rfl
    rw [hQ]
    exact W.vret hx hb hr (fun t ht hW => ⟨⟨(pickG 0 [i1, i2, i3, i4, i5, i6], pickG (fun _ => 0) [], pickG (fun _ => 0) []), rfl, ⟨(show (0 : Int) ≤ i4.toInt ∧ i4.toInt ≤ 1600 from p_1), (show (0 : Int) ≤ i5.toInt ∧ i5.toInt ≤ 1600 from p_2), trivial⟩, (by rw [ht]; exact hP9), hD9⟩, hS.F ht⟩) hS.2.2 dX10_takeSign_7
theorem dX10_takeNumber_0 : decode cX10_takeNumber 0 = .ok (.aload_n 0, 1) := by decide +kernel
theorem dX10_takeNumber_1 : decode cX10_takeNumber 1 = .ok (.getfield 22, 3) := by decide +kernel
theorem dX10_takeNumber_4 : decode cX10_takeNumber 4 = .ok (.ifCond .eq 5, 3) := by decide +kernel
theorem dX10_takeNumber_7 : decode cX10_takeNumber 7 = .ok (.iload_n 1, 1) := by decide +kernel
theorem dX10_takeNumber_8 : decode cX10_takeNumber 8 = .ok (.ireturn, 1) := by decide +kernel
theorem dX10_takeNumber_9 : decode cX10_takeNumber 9 = .ok (.aload_n 0, 1) := by decide +kernel
theorem dX10_takeNumber_10 : decode cX10_takeNumber 10 = .ok (.getfield 31, 3) := by decide +kernel
theorem dX10_takeNumber_13 : decode cX10_takeNumber 13 = .ok (.iconst 2, 1) := by decide +kernel
theorem dX10_takeNumber_14 : decode cX10_takeNumber 14 = .ok (.if_icmp .eq 10, 3) := by decide +kernel
theorem dX10_takeNumber_17 : decode cX10_takeNumber 17 = .ok (.aload_n 0, 1) := by decide +kernel
theorem dX10_takeNumber_18 : decode cX10_takeNumber 18 = .ok (.iconst 1, 1) := by decide +kernel
theorem dX10_takeNumber_19 : decode cX10_takeNumber 19 = .ok (.invokevirtual 70, 3) := by decide +kernel
theorem dX10_takeNumber_22 : decode cX10_takeNumber 22 = .ok (.iload_n 1, 1) := by decide +kernel
theorem dX10_takeNumber_23 : decode cX10_takeNumber 23 = .ok (.ireturn, 1) := by decide +kernel
theorem dX10_takeNumber_24 : decode cX10_takeNumber 24 = .ok (.aload_n 0, 1) := by decide +kernel
theorem dX10_takeNumber_25 : decode cX10_takeNumber 25 = .ok (.getfield 78, 3) := by decide +kernel
theorem dX10_takeNumber_28 : decode cX10_takeNumber 28 = .ok (.iload_n 1, 1) := by decide +kernel
theorem dX10_takeNumber_29 : decode cX10_takeNumber 29 = .ok (.if_icmp .lt 11, 3) := by decide +kernel
theorem dX10_takeNumber_32 : decode cX10_takeNumber 32 = .ok (.aload_n 0, 1) := by decide +kernel
theorem dX10_takeNumber_33 : decode cX10_takeNumber 33 = .ok (.getfield 78, 3) := by decide +kernel
theorem dX10_takeNumber_36 : decode cX10_takeNumber 36 = .ok (.iload_n 2, 1) := by decide +kernel
theorem dX10_takeNumber_37 : decode cX10_takeNumber 37 = .ok (.if_icmp .le 10, 3) := by decide +kernel
theorem dX10_takeNumber_40 : decode cX10_takeNumber 40 = .ok (.aload_n 0, 1) := by decide +kernel
theorem dX10_takeNumber_41 : decode cX10_takeNumber 41 = .ok (.iconst 2, 1) := by decide +kernel
theorem dX10_takeNumber_42 : decode cX10_takeNumber 42 = .ok (.invokevirtual 70, 3) := by decide +kernel
theorem dX10_takeNumber_45 : decode cX10_takeNumber 45 = .ok (.iload_n 1, 1) := by decide +kernel
theorem dX10_takeNumber_46 : decode cX10_takeNumber 46 = .ok (.ireturn, 1) := by decide +kernel
theorem dX10_takeNumber_47 : decode cX10_takeNumber 47 = .ok (.aload_n 0, 1) := by decide +kernel
theorem dX10_takeNumber_48 : decode cX10_takeNumber 48 = .ok (.getfield 78, 3) := by decide +kernel
theorem dX10_takeNumber_51 : decode cX10_takeNumber 51 = .ok (.istore_n 3, 1) := by decide +kernel
theorem dX10_takeNumber_52 : decode cX10_takeNumber 52 = .ok (.aload_n 0, 1) := by decide +kernel
theorem dX10_takeNumber_53 : decode cX10_takeNumber 53 = .ok (.invokevirtual 28, 3) := by decide +kernel
theorem dX10_takeNumber_56 : decode cX10_takeNumber 56 = .ok (.iload_n 3, 1) := by decide +kernel
theorem dX10_takeNumber_57 : decode cX10_takeNumber 57 = .ok (.ireturn, 1) := by decide +kernel
set_option maxHeartbeats 4000000 in
set_option maxRecDepth 100000 in
theorem s_X10_takeNumber (l : Launch) (dC : Nat → ClassId) (dI : Nat → Nat → Nat) (cI cZ cB cJ cM cG : ClassId) (a0 a1 : Nat) (i0 i1 i2 i3 i4 i5 i6 : Int32) (xF0 : Nat → Int32) (p0 p1 : Int32) (sz : Nat) (p_0 : (0 : Int) ≤ i0.toInt ∧ i0.toInt ≤ 1600) (p_1 : (0 : Int) ≤ i4.toInt ∧ i4.toInt ≤ 1600) (p_2 : (0 : Int) ≤ i5.toInt ∧ i5.toInt ≤ 1600) : Met l yX10_takeNumber (kw yX10_takeNumber cX10_takeNumber 4 (some .int)) ({ frames := 2, cells := 0, slots := 0, locals := 43 } : Room) (va_Pc [.ref a0, .int p0, .int p1] (kPre dC dI [(cI, .int), (cZ, .boolean), (cB, .byte), (cJ, .long), (cM, .object RX2), (cG, .array .int)] [(a0, .inr (10, [.ref a1, .int i0, .int i1, .int i2, .int i3, .int i4, .int i5, .int i6])), (a1, .inl (cB, 1600, .inl xF0))] sz)) (va_Qi (fun (r : Int32) (u9 : (Nat → Int32) × (Nat → Nat → Int32) × (Nat → Nat → Int64)) => (p0.toInt ≤ r.toInt ∧ (r.toInt ≤ p0.toInt ∨ r.toInt ≤ p1.toInt)) ∧ ((0 : Int) ≤ (u9.1 3).toInt ∧ (u9.1 3).toInt ≤ 1600) ∧ ((0 : Int) ≤ (u9.1 4).toInt ∧ (u9.1 4).toInt ≤ 1600) ∧ True) (fun u9 t => va_P (dC, dI) vwCl [(a0, .inr (10, [.ref a1, .int i0, .int (u9.1 0), .int (u9.1 1), .int (u9.1 2), .int (u9.1 3), .int (u9.1 4), .int (u9.1 5)])), (a1, .inl (cB, 1600, .inl xF0))] t.heap ∧ va_D (va_A [(a0, .inr (10, [.ref a1, .int i0, .int i1, .int i2, .int i3, .int i4, .int i5, .int i6])), (a1, .inl (cB, 1600, .inl xF0))] sz) [(a0, .inr (10, [.ref a1, .int i0, .int (u9.1 0), .int (u9.1 1), .int (u9.1 2), .int (u9.1 3), .int (u9.1 4), .int (u9.1 5)])), (a1, .inl (cB, 1600, .inl xF0))]) (va_A [(a0, .inr (10, [.ref a1, .int i0, .int i1, .int i2, .int i3, .int i4, .int i5, .int i6])), (a1, .inl (cB, 1600, .inl xF0))] sz)) 0 0 (va_A [(a0, .inr (10, [.ref a1, .int i0, .int i1, .int i2, .int i3, .int i4, .int i5, .int i6])), (a1, .inl (cB, 1600, .inl xF0))] sz) := by
  refine kEnter (by decide) (Nat.le_of_ble_eq_true rfl) ?_
  intro p e s m below meth c ls hx hb hr hml hown hlocks hin hwd hsz hP hK hD hl
  subst hsz
  generalize hAe : va_A [(a0, .inr (10, [.ref a1, .int i0, .int i1, .int i2, .int i3, .int i4, .int i5, .int i6])), (a1, .inl (cB, 1600, .inl xF0))] s.heap.size = A at hD ⊢
  have hA : ∀ q : Nat, s.heap.size ≤ q → A q := fun q h => by rw [← hAe]; exact Or.inr h
  have hS : va_S A s.heap s.heap [] := va_S.rf
  have hl : lv_has ls 4 [(0, .ref a0), (1, .int p0), (2, .int p1)] := hl
  obtain ⟨Q, hQ⟩ : ∃ Q, Q = MQ below (va_Qi (fun (r : Int32) (u9 : (Nat → Int32) × (Nat → Nat → Int32) × (Nat → Nat → Int64)) => (p0.toInt ≤ r.toInt ∧ (r.toInt ≤ p0.toInt ∨ r.toInt ≤ p1.toInt)) ∧ ((0 : Int) ≤ (u9.1 3).toInt ∧ (u9.1 3).toInt ≤ 1600) ∧ ((0 : Int) ≤ (u9.1 4).toInt ∧ (u9.1 4).toInt ≤ 1600) ∧ True) (fun u9 t => va_P (dC, dI) vwCl [(a0, .inr (10, [.ref a1, .int i0, .int (u9.1 0), .int (u9.1 1), .int (u9.1 2), .int (u9.1 3), .int (u9.1 4), .int (u9.1 5)])), (a1, .inl (cB, 1600, .inl xF0))] t.heap ∧ va_D A [(a0, .inr (10, [.ref a1, .int i0, .int (u9.1 0), .int (u9.1 1), .int (u9.1 2), .int (u9.1 3), .int (u9.1 4), .int (u9.1 5)])), (a1, .inl (cB, 1600, .inl xF0))]) A) ([.ref a0, .int p0, .int p1] : List Value).toArray s 0 0 A := ⟨_, rfl⟩
  rw [← hQ]
  have k0 : (0 : Int32).toInt = 0 := by decide
  have k2 : (2 : Int32).toInt = 2 := by decide
  refine lv_aload_n hx hb dX10_takeNumber_0 rfl (lv_at hl 0 rfl) ?_
  refine va_get (D := (dC, dI)) (ci := 10) (v := .int i1) (C := RX10) (T := TX10) (N := 8) hx hb hwd inlX10 hown hK hP 0 rfl rfl 2 (by decide) (hwd _ kr7_0) (fun _ h9 => h9) rfl dX10_takeNumber_1 ?_
  refine lv_if_eq (tgt := 9) hx hb dX10_takeNumber_4 (by decide) (fun c1 => ?_) (fun c1 => ?_)
  · rw [ki_eq] at c1
    refine lv_aload_n hx hb dX10_takeNumber_9 rfl (lv_at hl 0 rfl) ?_
    refine va_get (D := (dC, dI)) (ci := 10) (v := .int i3) (C := RX10) (T := TX10) (N := 8) hx hb hwd inlX10 hown hK hP 0 rfl rfl 4 (by decide) (hwd _ kr7_5) (fun _ h9 => h9) rfl dX10_takeNumber_10 ?_
    refine lv_iconst (v := 2) hx hb dX10_takeNumber_13 (by decide) ?_
    refine lv_icmp_eq (tgt := 24) hx hb dX10_takeNumber_14 (by decide) (fun c2 => ?_) (fun c2 => ?_)
    · rw [ki_eq] at c2
      refine lv_aload_n hx hb dX10_takeNumber_24 rfl (lv_at hl 0 rfl) ?_
      refine va_get (D := (dC, dI)) (ci := 10) (v := .int i6) (C := RX10) (T := TX10) (N := 8) hx hb hwd inlX10 hown hK hP 0 rfl rfl 7 (by decide) (hwd _ kr7_8) (fun _ h9 => h9) rfl dX10_takeNumber_25 ?_
      refine lv_iload_n hx hb dX10_takeNumber_28 rfl (lv_at hl 1 rfl) ?_
      refine lv_icmp_lt (tgt := 40) hx hb dX10_takeNumber_29 (by decide) (fun c3 => ?_) (fun c3 => ?_)
      · rw [ki_lt] at c3
        refine lv_aload_n hx hb dX10_takeNumber_40 rfl (lv_at hl 0 rfl) ?_
        refine lv_iconst (v := 2) hx hb dX10_takeNumber_41 (by decide) ?_
        have hPc := hP.sub (ws' := [(a0, .inr (10, [.ref a1, .int i0, .int i1, .int i2, .int i3, .int i4, .int i5, .int i6]))]) [0] rfl
        have hDc := hD.sub (ws' := [(a0, .inr (10, [.ref a1, .int i0, .int i1, .int i2, .int i3, .int i4, .int i5, .int i6]))]) [0] (by decide) rfl
        have hFc := va_free (wc := [(a0, .inr (10, [.ref a1, .int i0, .int i1, .int i2, .int i3, .int i4, .int i5, .int i6]))]) hD hS hA [0] rfl
        refine va_callv (va_runV (As := [.int 2]) (rest := []) ⟨hx, hb, hml, hown, hwd⟩ (s_X10_blame l dC dI cI cZ cB cJ cM cG a0 a1 i0 i1 i2 i3 i4 i5 i6 2 s.heap.size (show (0 : Int) ≤ i0.toInt ∧ i0.toInt ≤ 1600 from p_0) (show (0 : Int) ≤ i4.toInt ∧ i4.toInt ≤ 1600 from p_1) (show (0 : Int) ≤ i5.toInt ∧ i5.toInt ≤ 1600 from p_2)) (cwV 1 hwd (gV kr21_17 kr21_18 kr21_19 kr5_12 kr21_20) rfl rfl rfl (by decide +kernel) ⟨Nat.le_of_ble_eq_true rfl, Nat.le_of_ble_eq_true rfl⟩) (kPreV hPc hK hDc (ci := 10) (q0 := 0) rfl rfl) rfl rfl hl.1 rfl (lv_room (Nat.le_of_ble_eq_true rfl)) dX10_takeNumber_42 ⟨Nat.le_of_ble_eq_true rfl, Nat.le_of_ble_eq_true rfl⟩) hS (fun q _ h => hFc q h) hFc (fun u5 t H1 locs ht9 hvm hw hB hz1 hk1 hS => ?_)
        obtain ⟨u6, U6, V6⟩ := u5
        obtain ⟨hP1, hD1⟩ := hB
        rw [ht9] at hP1
        obtain ⟨hP, hD⟩ := va_join (wr := [(a1, .inl (cB, 1600, .inl xF0))]) (w1 := [(a0, .inr (10, [.ref a1, .int i0, .int (u6 0), .int (u6 1), .int i3, .int i4, .int i5, .int i6]))]) hP hD [0] [1] rfl rfl (by decide) (by decide) hk1 hFc hP1 hD1
        generalize H1 = H at hP hS ⊢
        replace hP : va_P (dC, dI) vwCl [(a1, .inl (cB, 1600, .inl xF0)), (a0, .inr (10, [.ref a1, .int i0, .int (u6 0), .int (u6 1), .int i3, .int i4, .int i5, .int i6]))] H := hP
        replace hD : va_D A [(a1, .inl (cB, 1600, .inl xF0)), (a0, .inr (10, [.ref a1, .int i0, .int (u6 0), .int (u6 1), .int i3, .int i4, .int i5, .int i6]))] := hD
        refine lv_iload_n hx hb dX10_takeNumber_45 rfl (lv_at hl 1 rfl) ?_
        have hP9 := hP.sub (ws' := [(a0, .inr (10, [.ref a1, .int i0, .int (u6 0), .int (u6 1), .int i3, .int i4, .int i5, .int i6])), (a1, .inl (cB, 1600, .inl xF0))]) [1, 0] rfl
        have hD9 := hD.sub (ws' := [(a0, .inr (10, [.ref a1, .int i0, .int (u6 0), .int (u6 1), .int i3, .int i4, .int i5, .int i6])), (a1, .inl (cB, 1600, .inl xF0))]) [1, 0] (by decide) rfl
        rw [hQ]
        exact W.iret (v := p0) hx hb hr (fun t ht hW => ⟨⟨p0, (pickG 0 [(u6 0), (u6 1), i3, i4, i5, i6], pickG (fun _ => 0) [], pickG (fun _ => 0) []), rfl, ⟨(show p0.toInt ≤ p0.toInt ∧ (p0.toInt ≤ p0.toInt ∨ p0.toInt ≤ p1.toInt) from by omega), (show (0 : Int) ≤ i4.toInt ∧ i4.toInt ≤ 1600 from p_1), (show (0 : Int) ≤ i5.toInt ∧ i5.toInt ≤ 1600 from p_2), trivial⟩, (by rw [ht]; exact hP9), hD9⟩, hS.F ht⟩) hS.2.2 dX10_takeNumber_46
      · rw [ki_lt] at c3
        refine lv_aload_n hx hb dX10_takeNumber_32 rfl (lv_at hl 0 rfl) ?_
        refine va_get (D := (dC, dI)) (ci := 10) (v := .int i6) (C := RX10) (T := TX10) (N := 8) hx hb hwd inlX10 hown hK hP 0 rfl rfl 7 (by decide) (hwd _ kr7_8) (fun _ h9 => h9) rfl dX10_takeNumber_33 ?_
        refine lv_iload_n hx hb dX10_takeNumber_36 rfl (lv_at hl 2 rfl) ?_
        refine lv_icmp_le (tgt := 47) hx hb dX10_takeNumber_37 (by decide) (fun c7 => ?_) (fun c7 => ?_)
        · rw [ki_le] at c7
          refine lv_aload_n hx hb dX10_takeNumber_47 rfl (lv_at hl 0 rfl) ?_
          refine va_get (D := (dC, dI)) (ci := 10) (v := .int i6) (C := RX10) (T := TX10) (N := 8) hx hb hwd inlX10 hown hK hP 0 rfl rfl 7 (by decide) (hwd _ kr7_8) (fun _ h9 => h9) rfl dX10_takeNumber_48 ?_
          refine lv_istore_n (lv' := [(3, .int i6), (0, .ref a0), (1, .int p0), (2, .int p1)]) hx hb dX10_takeNumber_51 rfl hl (by decide) rfl (fun ls hl => ?_)
          refine lv_aload_n hx hb dX10_takeNumber_52 rfl (lv_at hl 1 rfl) ?_
          have hPc := hP.sub (ws' := [(a0, .inr (10, [.ref a1, .int i0, .int i1, .int i2, .int i3, .int i4, .int i5, .int i6])), (a1, .inl (cB, 1600, .inl xF0))]) [0, 1] rfl
          have hDc := hD.sub (ws' := [(a0, .inr (10, [.ref a1, .int i0, .int i1, .int i2, .int i3, .int i4, .int i5, .int i6])), (a1, .inl (cB, 1600, .inl xF0))]) [0, 1] (by decide) rfl
          have hFc := va_free (wc := [(a0, .inr (10, [.ref a1, .int i0, .int i1, .int i2, .int i3, .int i4, .int i5, .int i6])), (a1, .inl (cB, 1600, .inl xF0))]) hD hS hA [0, 1] rfl
          refine va_callv (va_runV (As := []) (rest := []) ⟨hx, hb, hml, hown, hwd⟩ (s_X10_readToken l dC dI cI cZ cB cJ cM cG a0 a1 i0 i1 i2 i3 i4 i5 i6 xF0 s.heap.size (show (0 : Int) ≤ i0.toInt ∧ i0.toInt ≤ 1600 from p_0) (show (0 : Int) ≤ i4.toInt ∧ i4.toInt ≤ 1600 from p_1) (show (0 : Int) ≤ i5.toInt ∧ i5.toInt ≤ 1600 from p_2)) (cwV 0 hwd (gV kr18_1 kr18_2 kr18_3 kr5_12 kr18_4) rfl rfl rfl (by decide +kernel) ⟨Nat.le_of_ble_eq_true rfl, Nat.le_of_ble_eq_true rfl⟩) (kPreV hPc hK hDc (ci := 10) (q0 := 0) rfl rfl) rfl rfl hl.1 rfl (lv_room (Nat.le_of_ble_eq_true rfl)) dX10_takeNumber_53 ⟨Nat.le_of_ble_eq_true rfl, Nat.le_of_ble_eq_true rfl⟩) hS (fun q _ h => hFc q h) hFc (fun u9 t H1 locs ht9 hvm hw hB hz1 hk1 hS => ?_)
          obtain ⟨u10, U10, V10⟩ := u9
          obtain ⟨hw11, hw12, -⟩ := hw
          replace hw11 : (0 : Int) ≤ (u10 1).toInt ∧ (u10 1).toInt ≤ 1600 := hw11
          replace hw12 : (0 : Int) ≤ (u10 2).toInt ∧ (u10 2).toInt ≤ 1600 := hw12
          obtain ⟨hP1, hD1⟩ := hB
          rw [ht9] at hP1
          obtain ⟨hP, hD⟩ := va_join (wr := []) (w1 := [(a0, .inr (10, [.ref a1, .int i0, .int i1, .int i2, .int (u10 0), .int (u10 1), .int (u10 2), .int (u10 3)])), (a1, .inl (cB, 1600, .inl xF0))]) hP hD [0, 1] [] rfl rfl (by decide) (by decide) hk1 hFc hP1 hD1
          generalize H1 = H at hP hS ⊢
          replace hP : va_P (dC, dI) vwCl [(a0, .inr (10, [.ref a1, .int i0, .int i1, .int i2, .int (u10 0), .int (u10 1), .int (u10 2), .int (u10 3)])), (a1, .inl (cB, 1600, .inl xF0))] H := hP
          replace hD : va_D A [(a0, .inr (10, [.ref a1, .int i0, .int i1, .int i2, .int (u10 0), .int (u10 1), .int (u10 2), .int (u10 3)])), (a1, .inl (cB, 1600, .inl xF0))] := hD
          refine lv_iload_n hx hb dX10_takeNumber_56 rfl (lv_at hl 0 rfl) ?_
          have hP9 := hP.sub (ws' := [(a0, .inr (10, [.ref a1, .int i0, .int i1, .int i2, .int (u10 0), .int (u10 1), .int (u10 2), .int (u10 3)])), (a1, .inl (cB, 1600, .inl xF0))]) [0, 1] rfl
          have hD9 := hD.sub (ws' := [(a0, .inr (10, [.ref a1, .int i0, .int i1, .int i2, .int (u10 0), .int (u10 1), .int (u10 2), .int (u10 3)])), (a1, .inl (cB, 1600, .inl xF0))]) [0, 1] (by decide) rfl
          rw [hQ]
          exact W.iret (v := i6) hx hb hr (fun t ht hW => ⟨⟨i6, (pickG 0 [i1, i2, (u10 0), (u10 1), (u10 2), (u10 3)], pickG (fun _ => 0) [], pickG (fun _ => 0) []), rfl, ⟨(show p0.toInt ≤ i6.toInt ∧ (i6.toInt ≤ p0.toInt ∨ i6.toInt ≤ p1.toInt) from by omega), (show (0 : Int) ≤ (u10 1).toInt ∧ (u10 1).toInt ≤ 1600 from hw11), (show (0 : Int) ≤ (u10 2).toInt ∧ (u10 2).toInt ≤ 1600 from hw12), trivial⟩, (by rw [ht]; exact hP9), hD9⟩, hS.F ht⟩) hS.2.2 dX10_takeNumber_57
        · rw [ki_le] at c7
          refine lv_aload_n hx hb dX10_takeNumber_40 rfl (lv_at hl 0 rfl) ?_
          refine lv_iconst (v := 2) hx hb dX10_takeNumber_41 (by decide) ?_
          have hPc := hP.sub (ws' := [(a0, .inr (10, [.ref a1, .int i0, .int i1, .int i2, .int i3, .int i4, .int i5, .int i6]))]) [0] rfl
          have hDc := hD.sub (ws' := [(a0, .inr (10, [.ref a1, .int i0, .int i1, .int i2, .int i3, .int i4, .int i5, .int i6]))]) [0] (by decide) rfl
          have hFc := va_free (wc := [(a0, .inr (10, [.ref a1, .int i0, .int i1, .int i2, .int i3, .int i4, .int i5, .int i6]))]) hD hS hA [0] rfl
          refine va_callv (va_runV (As := [.int 2]) (rest := []) ⟨hx, hb, hml, hown, hwd⟩ (s_X10_blame l dC dI cI cZ cB cJ cM cG a0 a1 i0 i1 i2 i3 i4 i5 i6 2 s.heap.size (show (0 : Int) ≤ i0.toInt ∧ i0.toInt ≤ 1600 from p_0) (show (0 : Int) ≤ i4.toInt ∧ i4.toInt ≤ 1600 from p_1) (show (0 : Int) ≤ i5.toInt ∧ i5.toInt ≤ 1600 from p_2)) (cwV 1 hwd (gV kr21_17 kr21_18 kr21_19 kr5_12 kr21_20) rfl rfl rfl (by decide +kernel) ⟨Nat.le_of_ble_eq_true rfl, Nat.le_of_ble_eq_true rfl⟩) (kPreV hPc hK hDc (ci := 10) (q0 := 0) rfl rfl) rfl rfl hl.1 rfl (lv_room (Nat.le_of_ble_eq_true rfl)) dX10_takeNumber_42 ⟨Nat.le_of_ble_eq_true rfl, Nat.le_of_ble_eq_true rfl⟩) hS (fun q _ h => hFc q h) hFc (fun u14 t H1 locs ht9 hvm hw hB hz1 hk1 hS => ?_)
          obtain ⟨u15, U15, V15⟩ := u14
          obtain ⟨hP1, hD1⟩ := hB
          rw [ht9] at hP1
          obtain ⟨hP, hD⟩ := va_join (wr := [(a1, .inl (cB, 1600, .inl xF0))]) (w1 := [(a0, .inr (10, [.ref a1, .int i0, .int (u15 0), .int (u15 1), .int i3, .int i4, .int i5, .int i6]))]) hP hD [0] [1] rfl rfl (by decide) (by decide) hk1 hFc hP1 hD1
          generalize H1 = H at hP hS ⊢
          replace hP : va_P (dC, dI) vwCl [(a1, .inl (cB, 1600, .inl xF0)), (a0, .inr (10, [.ref a1, .int i0, .int (u15 0), .int (u15 1), .int i3, .int i4, .int i5, .int i6]))] H := hP
          replace hD : va_D A [(a1, .inl (cB, 1600, .inl xF0)), (a0, .inr (10, [.ref a1, .int i0, .int (u15 0), .int (u15 1), .int i3, .int i4, .int i5, .int i6]))] := hD
          refine lv_iload_n hx hb dX10_takeNumber_45 rfl (lv_at hl 1 rfl) ?_
          have hP9 := hP.sub (ws' := [(a0, .inr (10, [.ref a1, .int i0, .int (u15 0), .int (u15 1), .int i3, .int i4, .int i5, .int i6])), (a1, .inl (cB, 1600, .inl xF0))]) [1, 0] rfl
          have hD9 := hD.sub (ws' := [(a0, .inr (10, [.ref a1, .int i0, .int (u15 0), .int (u15 1), .int i3, .int i4, .int i5, .int i6])), (a1, .inl (cB, 1600, .inl xF0))]) [1, 0] (by decide) rfl
          rw [hQ]
          exact W.iret (v := p0) hx hb hr (fun t ht hW => ⟨⟨p0, (pickG 0 [(u15 0), (u15 1), i3, i4, i5, i6], pickG (fun _ => 0) [], pickG (fun _ => 0) []), rfl, ⟨(show p0.toInt ≤ p0.toInt ∧ (p0.toInt ≤ p0.toInt ∨ p0.toInt ≤ p1.toInt) from by omega), (show (0 : Int) ≤ i4.toInt ∧ i4.toInt ≤ 1600 from p_1), (show (0 : Int) ≤ i5.toInt ∧ i5.toInt ≤ 1600 from p_2), trivial⟩, (by rw [ht]; exact hP9), hD9⟩, hS.F ht⟩) hS.2.2 dX10_takeNumber_46
    · rw [ki_eq] at c2
      refine lv_aload_n hx hb dX10_takeNumber_17 rfl (lv_at hl 0 rfl) ?_
      refine lv_iconst (v := 1) hx hb dX10_takeNumber_18 (by decide) ?_
      have hPc := hP.sub (ws' := [(a0, .inr (10, [.ref a1, .int i0, .int i1, .int i2, .int i3, .int i4, .int i5, .int i6]))]) [0] rfl
      have hDc := hD.sub (ws' := [(a0, .inr (10, [.ref a1, .int i0, .int i1, .int i2, .int i3, .int i4, .int i5, .int i6]))]) [0] (by decide) rfl
      have hFc := va_free (wc := [(a0, .inr (10, [.ref a1, .int i0, .int i1, .int i2, .int i3, .int i4, .int i5, .int i6]))]) hD hS hA [0] rfl
      refine va_callv (va_runV (As := [.int 1]) (rest := []) ⟨hx, hb, hml, hown, hwd⟩ (s_X10_blame l dC dI cI cZ cB cJ cM cG a0 a1 i0 i1 i2 i3 i4 i5 i6 1 s.heap.size (show (0 : Int) ≤ i0.toInt ∧ i0.toInt ≤ 1600 from p_0) (show (0 : Int) ≤ i4.toInt ∧ i4.toInt ≤ 1600 from p_1) (show (0 : Int) ≤ i5.toInt ∧ i5.toInt ≤ 1600 from p_2)) (cwV 1 hwd (gV kr21_17 kr21_18 kr21_19 kr5_12 kr21_20) rfl rfl rfl (by decide +kernel) ⟨Nat.le_of_ble_eq_true rfl, Nat.le_of_ble_eq_true rfl⟩) (kPreV hPc hK hDc (ci := 10) (q0 := 0) rfl rfl) rfl rfl hl.1 rfl (lv_room (Nat.le_of_ble_eq_true rfl)) dX10_takeNumber_19 ⟨Nat.le_of_ble_eq_true rfl, Nat.le_of_ble_eq_true rfl⟩) hS (fun q _ h => hFc q h) hFc (fun u17 t H1 locs ht9 hvm hw hB hz1 hk1 hS => ?_)
      obtain ⟨u18, U18, V18⟩ := u17
      obtain ⟨hP1, hD1⟩ := hB
      rw [ht9] at hP1
      obtain ⟨hP, hD⟩ := va_join (wr := [(a1, .inl (cB, 1600, .inl xF0))]) (w1 := [(a0, .inr (10, [.ref a1, .int i0, .int (u18 0), .int (u18 1), .int i3, .int i4, .int i5, .int i6]))]) hP hD [0] [1] rfl rfl (by decide) (by decide) hk1 hFc hP1 hD1
      generalize H1 = H at hP hS ⊢
      replace hP : va_P (dC, dI) vwCl [(a1, .inl (cB, 1600, .inl xF0)), (a0, .inr (10, [.ref a1, .int i0, .int (u18 0), .int (u18 1), .int i3, .int i4, .int i5, .int i6]))] H := hP
      replace hD : va_D A [(a1, .inl (cB, 1600, .inl xF0)), (a0, .inr (10, [.ref a1, .int i0, .int (u18 0), .int (u18 1), .int i3, .int i4, .int i5, .int i6]))] := hD
      refine lv_iload_n hx hb dX10_takeNumber_22 rfl (lv_at hl 1 rfl) ?_
      have hP9 := hP.sub (ws' := [(a0, .inr (10, [.ref a1, .int i0, .int (u18 0), .int (u18 1), .int i3, .int i4, .int i5, .int i6])), (a1, .inl (cB, 1600, .inl xF0))]) [1, 0] rfl
      have hD9 := hD.sub (ws' := [(a0, .inr (10, [.ref a1, .int i0, .int (u18 0), .int (u18 1), .int i3, .int i4, .int i5, .int i6])), (a1, .inl (cB, 1600, .inl xF0))]) [1, 0] (by decide) rfl
      rw [hQ]
      exact W.iret (v := p0) hx hb hr (fun t ht hW => ⟨⟨p0, (pickG 0 [(u18 0), (u18 1), i3, i4, i5, i6], pickG (fun _ => 0) [], pickG (fun _ => 0) []), rfl, ⟨(show p0.toInt ≤ p0.toInt ∧ (p0.toInt ≤ p0.toInt ∨ p0.toInt ≤ p1.toInt) from by omega), (show (0 : Int) ≤ i4.toInt ∧ i4.toInt ≤ 1600 from p_1), (show (0 : Int) ≤ i5.toInt ∧ i5.toInt ≤ 1600 from p_2), trivial⟩, (by rw [ht]; exact hP9), hD9⟩, hS.F ht⟩) hS.2.2 dX10_takeNumber_23
  · rw [ki_eq] at c1
    refine lv_iload_n hx hb dX10_takeNumber_7 rfl (lv_at hl 1 rfl) ?_
    have hP9 := hP.sub (ws' := [(a0, .inr (10, [.ref a1, .int i0, .int i1, .int i2, .int i3, .int i4, .int i5, .int i6])), (a1, .inl (cB, 1600, .inl xF0))]) [0, 1] rfl
    have hD9 := hD.sub (ws' := [(a0, .inr (10, [.ref a1, .int i0, .int i1, .int i2, .int i3, .int i4, .int i5, .int i6])), (a1, .inl (cB, 1600, .inl xF0))]) [0, 1] (by decide) rfl
    rw [hQ]
    exact W.iret (v := p0) hx hb hr (fun t ht hW => ⟨⟨p0, (pickG 0 [i1, i2, i3, i4, i5, i6], pickG (fun _ => 0) [], pickG (fun _ => 0) []), rfl, ⟨(show p0.toInt ≤ p0.toInt ∧ (p0.toInt ≤ p0.toInt ∨ p0.toInt ≤ p1.toInt) from by omega), (show (0 : Int) ≤ i4.toInt ∧ i4.toInt ≤ 1600 from p_1), (show (0 : Int) ≤ i5.toInt ∧ i5.toInt ≤ 1600 from p_2), trivial⟩, (by rw [ht]; exact hP9), hD9⟩, hS.F ht⟩) hS.2.2 dX10_takeNumber_8
theorem dX10_isWord_0 : decode cX10_isWord 0 = .ok (.aload_n 0, 1) := by decide +kernel
theorem dX10_isWord_1 : decode cX10_isWord 1 = .ok (.getfield 31, 3) := by decide +kernel
theorem dX10_isWord_4 : decode cX10_isWord 4 = .ok (.iconst 1, 1) := by decide +kernel
theorem dX10_isWord_5 : decode cX10_isWord 5 = .ok (.if_icmp .ne 19, 3) := by decide +kernel
theorem dX10_isWord_8 : decode cX10_isWord 8 = .ok (.aload_n 0, 1) := by decide +kernel
theorem dX10_isWord_9 : decode cX10_isWord 9 = .ok (.getfield 25, 3) := by decide +kernel
theorem dX10_isWord_12 : decode cX10_isWord 12 = .ok (.aload_n 0, 1) := by decide +kernel
theorem dX10_isWord_13 : decode cX10_isWord 13 = .ok (.getfield 34, 3) := by decide +kernel
theorem dX10_isWord_16 : decode cX10_isWord 16 = .ok (.isub, 1) := by decide +kernel
theorem dX10_isWord_17 : decode cX10_isWord 17 = .ok (.aload_n 1, 1) := by decide +kernel
theorem dX10_isWord_18 : decode cX10_isWord 18 = .ok (.invokevirtual 57, 3) := by decide +kernel
theorem dX10_isWord_21 : decode cX10_isWord 21 = .ok (.if_icmp .eq 5, 3) := by decide +kernel
theorem dX10_isWord_24 : decode cX10_isWord 24 = .ok (.iconst 0, 1) := by decide +kernel
theorem dX10_isWord_25 : decode cX10_isWord 25 = .ok (.ireturn, 1) := by decide +kernel
theorem dX10_isWord_26 : decode cX10_isWord 26 = .ok (.iconst 0, 1) := by decide +kernel
theorem dX10_isWord_27 : decode cX10_isWord 27 = .ok (.istore_n 2, 1) := by decide +kernel
theorem dX10_isWord_28 : decode cX10_isWord 28 = .ok (.iload_n 2, 1) := by decide +kernel
theorem dX10_isWord_29 : decode cX10_isWord 29 = .ok (.aload_n 1, 1) := by decide +kernel
theorem dX10_isWord_30 : decode cX10_isWord 30 = .ok (.invokevirtual 57, 3) := by decide +kernel
theorem dX10_isWord_33 : decode cX10_isWord 33 = .ok (.if_icmp .ge 29, 3) := by decide +kernel
theorem dX10_isWord_36 : decode cX10_isWord 36 = .ok (.aload_n 0, 1) := by decide +kernel
theorem dX10_isWord_37 : decode cX10_isWord 37 = .ok (.aload_n 0, 1) := by decide +kernel
theorem dX10_isWord_38 : decode cX10_isWord 38 = .ok (.getfield 34, 3) := by decide +kernel
theorem dX10_isWord_41 : decode cX10_isWord 41 = .ok (.iload_n 2, 1) := by decide +kernel
theorem dX10_isWord_42 : decode cX10_isWord 42 = .ok (.iadd, 1) := by decide +kernel
theorem dX10_isWord_43 : decode cX10_isWord 43 = .ok (.invokevirtual 41, 3) := by decide +kernel
theorem dX10_isWord_46 : decode cX10_isWord 46 = .ok (.aload_n 1, 1) := by decide +kernel
theorem dX10_isWord_47 : decode cX10_isWord 47 = .ok (.iload_n 2, 1) := by decide +kernel
theorem dX10_isWord_48 : decode cX10_isWord 48 = .ok (.invokevirtual 62, 3) := by decide +kernel
theorem dX10_isWord_51 : decode cX10_isWord 51 = .ok (.if_icmp .eq 5, 3) := by decide +kernel
theorem dX10_isWord_54 : decode cX10_isWord 54 = .ok (.iconst 0, 1) := by decide +kernel
theorem dX10_isWord_55 : decode cX10_isWord 55 = .ok (.ireturn, 1) := by decide +kernel
theorem dX10_isWord_56 : decode cX10_isWord 56 = .ok (.iinc 2 1, 3) := by decide +kernel
theorem dX10_isWord_59 : decode cX10_isWord 59 = .ok (.goto (-31), 3) := by decide +kernel
theorem dX10_isWord_62 : decode cX10_isWord 62 = .ok (.iconst 1, 1) := by decide +kernel
theorem dX10_isWord_63 : decode cX10_isWord 63 = .ok (.ireturn, 1) := by decide +kernel
set_option maxHeartbeats 4000000 in
set_option maxRecDepth 100000 in
theorem s_X10_isWord (l : Launch) (dC : Nat → ClassId) (dI : Nat → Nat → Nat) (cI cZ cB cJ cM cG : ClassId) (a0 a1 : Nat) (i0 i1 i2 i3 i4 i5 i6 : Int32) (xF0 : Nat → Int32) (sa sav sn : Nat) (sf : Nat → Int32) (sz : Nat) (p_0 : (0 : Int) ≤ i0.toInt ∧ i0.toInt ≤ 1600) (p_1 : (0 : Int) ≤ i4.toInt ∧ i4.toInt ≤ 1600) (p_2 : (0 : Int) ≤ i5.toInt ∧ i5.toInt ≤ 1600) : Met l yX10_isWord (kw yX10_isWord cX10_isWord 3 (some .boolean)) ({ frames := 4, cells := 0, slots := 0, locals := 85 } : Room) (va_Pc [.ref a0, .ref sa] (kPreX dC dI [(cI, .int), (cZ, .boolean), (cB, .byte), (cJ, .long), (cM, .object RX2), (cG, .array .int)] [(a0, .inr (10, [.ref a1, .int i0, .int i1, .int i2, .int i3, .int i4, .int i5, .int i6])), (a1, .inl (cB, 1600, .inl xF0))] sz (NS sa sav sn sf))) (va_Qi (fun (r : Int32) (u9 : Unit) => ((0 : Int) ≤ r.toInt ∧ r.toInt ≤ 1) ∧ True) (fun u9 t => va_P (dC, dI) vwCl [(a0, .inr (10, [.ref a1, .int i0, .int i1, .int i2, .int i3, .int i4, .int i5, .int i6])), (a1, .inl (cB, 1600, .inl xF0))] t.heap ∧ va_D (va_A [(a0, .inr (10, [.ref a1, .int i0, .int i1, .int i2, .int i3, .int i4, .int i5, .int i6])), (a1, .inl (cB, 1600, .inl xF0))] sz) [(a0, .inr (10, [.ref a1, .int i0, .int i1, .int i2, .int i3, .int i4, .int i5, .int i6])), (a1, .inl (cB, 1600, .inl xF0))]) (va_A [(a0, .inr (10, [.ref a1, .int i0, .int i1, .int i2, .int i3, .int i4, .int i5, .int i6])), (a1, .inl (cB, 1600, .inl xF0))] sz)) 0 0 (va_A [(a0, .inr (10, [.ref a1, .int i0, .int i1, .int i2, .int i3, .int i4, .int i5, .int i6])), (a1, .inl (cB, 1600, .inl xF0))] sz) := by
  refine kEnterX (by decide) (Nat.le_of_ble_eq_true rfl) ?_
  intro p e s m below meth c ls hx hb hr hml hown hlocks hin hwd hsz hP hK hD hN hl
  subst hsz
  generalize hAe : va_A [(a0, .inr (10, [.ref a1, .int i0, .int i1, .int i2, .int i3, .int i4, .int i5, .int i6])), (a1, .inl (cB, 1600, .inl xF0))] s.heap.size = A at hD hN ⊢
  have hA : ∀ q : Nat, s.heap.size ≤ q → A q := fun q h => by rw [← hAe]; exact Or.inr h
  have hS : va_S A s.heap s.heap [] := va_S.rf
  have hl : lv_has ls 3 [(0, .ref a0), (1, .ref sa)] := hl
  obtain ⟨Q, hQ⟩ : ∃ Q, Q = MQ below (va_Qi (fun (r : Int32) (u9 : Unit) => ((0 : Int) ≤ r.toInt ∧ r.toInt ≤ 1) ∧ True) (fun u9 t => va_P (dC, dI) vwCl [(a0, .inr (10, [.ref a1, .int i0, .int i1, .int i2, .int i3, .int i4, .int i5, .int i6])), (a1, .inl (cB, 1600, .inl xF0))] t.heap ∧ va_D A [(a0, .inr (10, [.ref a1, .int i0, .int i1, .int i2, .int i3, .int i4, .int i5, .int i6])), (a1, .inl (cB, 1600, .inl xF0))]) A) ([.ref a0, .ref sa] : List Value).toArray s 0 0 A := ⟨_, rfl⟩
  rw [← hQ]
  have k0 : (0 : Int32).toInt = 0 := by decide
  have k1 : (1 : Int32).toInt = 1 := by decide
  refine lv_aload_n hx hb dX10_isWord_0 rfl (lv_at hl 0 rfl) ?_
  refine va_get (D := (dC, dI)) (ci := 10) (v := .int i3) (C := RX10) (T := TX10) (N := 8) hx hb hwd inlX10 hown hK hP 0 rfl rfl 4 (by decide) (hwd _ kr7_5) (fun _ h9 => h9) rfl dX10_isWord_1 ?_
  refine lv_iconst (v := 1) hx hb dX10_isWord_4 (by decide) ?_
  refine lv_icmp_ne (tgt := 24) hx hb dX10_isWord_5 (by decide) (fun c1 => ?_) (fun c1 => ?_)
  · rw [ki_eq] at c1
    refine lv_iconst (v := 0) hx hb dX10_isWord_24 (by decide) ?_
    have hP9 := hP.sub (ws' := [(a0, .inr (10, [.ref a1, .int i0, .int i1, .int i2, .int i3, .int i4, .int i5, .int i6])), (a1, .inl (cB, 1600, .inl xF0))]) [0, 1] rfl
    have hD9 := hD.sub (ws' := [(a0, .inr (10, [.ref a1, .int i0, .int i1, .int i2, .int i3, .int i4, .int i5, .int i6])), (a1, .inl (cB, 1600, .inl xF0))]) [0, 1] (by decide) rfl
    rw [hQ]
    exact W.zret (v := 0) hx hb hr (by decide) (fun t ht hW => ⟨⟨0, (), rfl, ⟨(show (0 : Int) ≤ (0 : Int32).toInt ∧ (0 : Int32).toInt ≤ 1 from ⟨by omega, by omega⟩), trivial⟩, (by rw [ht]; exact hP9), hD9⟩, hS.F ht⟩) hS.2.2 dX10_isWord_25
  · rw [ki_eq] at c1
    refine lv_aload_n hx hb dX10_isWord_8 rfl (lv_at hl 0 rfl) ?_
    refine va_get (D := (dC, dI)) (ci := 10) (v := .int i5) (C := RX10) (T := TX10) (N := 8) hx hb hwd inlX10 hown hK hP 0 rfl rfl 6 (by decide) (hwd _ kr7_7) (fun _ h9 => h9) rfl dX10_isWord_9 ?_
    refine lv_aload_n hx hb dX10_isWord_12 rfl (lv_at hl 0 rfl) ?_
    refine va_get (D := (dC, dI)) (ci := 10) (v := .int i4) (C := RX10) (T := TX10) (N := 8) hx hb hwd inlX10 hown hK hP 0 rfl rfl 5 (by decide) (hwd _ kr7_6) (fun _ h9 => h9) rfl dX10_isWord_13 ?_
    refine lv_isub hx hb dX10_isWord_16 ?_
    refine lv_topi (fun x2 ex2 => ?_)
    have tx2 := ia_sub (a := i5) (b := i4) (by omega) (by omega)
    rw [← ex2] at tx2
    refine lv_aload_n hx hb dX10_isWord_17 rfl (lv_at hl 1 rfl) ?_
    have hPc := hP.sub (ws' := []) [] rfl
    have hDc := hD.sub (ws' := []) [] (by decide) rfl
    have hFc := va_free (wc := []) hD hS hA [] rfl
    refine va_calli (va_runV (As := []) (rest := [.int x2]) ⟨hx, hb, hml, hown, hwd⟩ (s_J0_length_8abf5 l dC dI cI cZ cB cJ cM cG sa sav sn sf s.heap.size) (cwV 0 hwd (gV kr19_22 kr19_23 kr20_0 kr6_0 kr20_1) rfl rfl rfl (by decide +kernel) ⟨Nat.le_of_ble_eq_true rfl, Nat.le_of_ble_eq_true rfl⟩) (kPreVS hPc hK hDc (NS_st _ _ _ _) hN hS hFc hN.2.2.1) rfl rfl hl.1 rfl (lv_room (Nat.le_of_ble_eq_true rfl)) dX10_isWord_18 ⟨Nat.le_of_ble_eq_true rfl, Nat.le_of_ble_eq_true rfl⟩) hS (fun q _ h => hFc q h) hFc (fun r3 u4 t H1 locs ht9 hvm hw hB hz1 hk1 hS => ?_)
    obtain ⟨hw5, hw6, -⟩ := hw
    replace hw5 : (0 : Int) ≤ r3.toInt ∧ r3.toInt ≤ 10 := hw5
    replace hw6 : r3.toInt = (sn : Int) := hw6
    obtain ⟨hP1, hD1⟩ := hB
    rw [ht9] at hP1
    obtain ⟨hP, hD⟩ := va_join (wr := [(a0, .inr (10, [.ref a1, .int i0, .int i1, .int i2, .int i3, .int i4, .int i5, .int i6])), (a1, .inl (cB, 1600, .inl xF0))]) (w1 := []) hP hD [] [0, 1] rfl rfl (by decide) (by decide) hk1 hFc hP1 hD1
    generalize H1 = H at hP hS ⊢
    replace hP : va_P (dC, dI) vwCl [(a0, .inr (10, [.ref a1, .int i0, .int i1, .int i2, .int i3, .int i4, .int i5, .int i6])), (a1, .inl (cB, 1600, .inl xF0))] H := hP
    replace hD : va_D A [(a0, .inr (10, [.ref a1, .int i0, .int i1, .int i2, .int i3, .int i4, .int i5, .int i6])), (a1, .inl (cB, 1600, .inl xF0))] := hD
    refine lv_icmp_eq (tgt := 26) hx hb dX10_isWord_21 (by decide) (fun c7 => ?_) (fun c7 => ?_)
    · rw [ki_eq] at c7
      refine lv_iconst (v := 0) hx hb dX10_isWord_26 (by decide) ?_
      refine lv_istore_n (lv' := [(2, .int 0), (0, .ref a0), (1, .ref sa)]) hx hb dX10_isWord_27 rfl hl (by decide) rfl (fun ls hl => ?_)
      have lp1 : ∀ (d : Nat), ∀ (H : Heap) (locs : List Loc) (ls : Array Slot) (w2_1 : Int32), ((0 : Int) ≤ w2_1.toInt ∧ w2_1.toInt ≤ 10) → (10 - w2_1.toInt).toNat < d → va_P (dC, dI) vwCl [(a0, .inr (10, [.ref a1, .int i0, .int i1, .int i2, .int i3, .int i4, .int i5, .int i6])), (a1, .inl (cB, 1600, .inl xF0))] H → va_D A [(a0, .inr (10, [.ref a1, .int i0, .int i1, .int i2, .int i3, .int i4, .int i5, .int i6])), (a1, .inl (cB, 1600, .inl xF0))] → va_S A s.heap H locs → lv_has ls 3 [(0, .ref a0), (1, .ref sa), (2, .int w2_1)] → W p l e ({ frames := 4, cells := 0, slots := 0, locals := 85 } : Room) s m ([.ref a0, .ref sa] : List Value).toArray below meth c H locs 0 0 Q (F0 m 28 ls []) := by
        intro d
        induction d with
        | zero =>
          intro H locs ls w2_1 hr_w2_1 hm hP hD hS hl
          omega
        | succ d ih1 =>
          intro H locs ls w2_1 hr_w2_1 hm hP hD hS hl
          refine lv_iload_n hx hb dX10_isWord_28 rfl (lv_at hl 2 rfl) ?_
          refine lv_aload_n hx hb dX10_isWord_29 rfl (lv_at hl 1 rfl) ?_
          have hPc := hP.sub (ws' := []) [] rfl
          have hDc := hD.sub (ws' := []) [] (by decide) rfl
          have hFc := va_free (wc := []) hD hS hA [] rfl
          refine va_calli (va_runV (As := []) (rest := [.int w2_1]) ⟨hx, hb, hml, hown, hwd⟩ (s_J0_length_8abf5 l dC dI cI cZ cB cJ cM cG sa sav sn sf H.size) (cwV 0 hwd (gV kr19_22 kr19_23 kr20_0 kr6_0 kr20_1) rfl rfl rfl (by decide +kernel) ⟨Nat.le_of_ble_eq_true rfl, Nat.le_of_ble_eq_true rfl⟩) (kPreVS hPc hK hDc (NS_st _ _ _ _) hN hS hFc hN.2.2.1) rfl rfl hl.1 rfl (lv_room (Nat.le_of_ble_eq_true rfl)) dX10_isWord_30 ⟨Nat.le_of_ble_eq_true rfl, Nat.le_of_ble_eq_true rfl⟩) hS (fun q _ h => hFc q h) hFc (fun r87 u88 t H1 locs ht9 hvm hw hB hz1 hk1 hS => ?_)
          obtain ⟨hw89, hw90, -⟩ := hw
          replace hw89 : (0 : Int) ≤ r87.toInt ∧ r87.toInt ≤ 10 := hw89
          replace hw90 : r87.toInt = (sn : Int) := hw90
          obtain ⟨hP1, hD1⟩ := hB
          rw [ht9] at hP1
          obtain ⟨hP, hD⟩ := va_join (wr := [(a0, .inr (10, [.ref a1, .int i0, .int i1, .int i2, .int i3, .int i4, .int i5, .int i6])), (a1, .inl (cB, 1600, .inl xF0))]) (w1 := []) hP hD [] [0, 1] rfl rfl (by decide) (by decide) hk1 hFc hP1 hD1
          generalize H1 = H at hP hS ⊢
          replace hP : va_P (dC, dI) vwCl [(a0, .inr (10, [.ref a1, .int i0, .int i1, .int i2, .int i3, .int i4, .int i5, .int i6])), (a1, .inl (cB, 1600, .inl xF0))] H := hP
          replace hD : va_D A [(a0, .inr (10, [.ref a1, .int i0, .int i1, .int i2, .int i3, .int i4, .int i5, .int i6])), (a1, .inl (cB, 1600, .inl xF0))] := hD
          refine lv_icmp_ge (tgt := 62) hx hb dX10_isWord_33 (by decide) (fun c91 => ?_) (fun c91 => ?_)
          · rw [ki_le] at c91
            refine lv_iconst (v := 1) hx hb dX10_isWord_62 (by decide) ?_
            have hP9 := hP.sub (ws' := [(a0, .inr (10, [.ref a1, .int i0, .int i1, .int i2, .int i3, .int i4, .int i5, .int i6])), (a1, .inl (cB, 1600, .inl xF0))]) [0, 1] rfl
            have hD9 := hD.sub (ws' := [(a0, .inr (10, [.ref a1, .int i0, .int i1, .int i2, .int i3, .int i4, .int i5, .int i6])), (a1, .inl (cB, 1600, .inl xF0))]) [0, 1] (by decide) rfl
            rw [hQ]
            exact W.zret (v := 1) hx hb hr (by decide) (fun t ht hW => ⟨⟨1, (), rfl, ⟨(show (0 : Int) ≤ (1 : Int32).toInt ∧ (1 : Int32).toInt ≤ 1 from ⟨by omega, by omega⟩), trivial⟩, (by rw [ht]; exact hP9), hD9⟩, hS.F ht⟩) hS.2.2 dX10_isWord_63
          · rw [ki_le] at c91
            refine lv_aload_n hx hb dX10_isWord_36 rfl (lv_at hl 0 rfl) ?_
            refine lv_aload_n hx hb dX10_isWord_37 rfl (lv_at hl 0 rfl) ?_
            refine va_get (D := (dC, dI)) (ci := 10) (v := .int i4) (C := RX10) (T := TX10) (N := 8) hx hb hwd inlX10 hown hK hP 0 rfl rfl 5 (by decide) (hwd _ kr7_6) (fun _ h9 => h9) rfl dX10_isWord_38 ?_
            refine lv_iload_n hx hb dX10_isWord_41 rfl (lv_at hl 2 rfl) ?_
            refine lv_iadd hx hb dX10_isWord_42 ?_
            refine lv_topi (fun x92 ex92 => ?_)
            have tx92 := ia_add (a := i4) (b := w2_1) (by omega) (by omega)
            rw [← ex92] at tx92
            have hPc := hP.sub (ws' := [(a0, .inr (10, [.ref a1, .int i0, .int i1, .int i2, .int i3, .int i4, .int i5, .int i6])), (a1, .inl (cB, 1600, .inl xF0))]) [0, 1] rfl
            have hDc := hD.sub (ws' := [(a0, .inr (10, [.ref a1, .int i0, .int i1, .int i2, .int i3, .int i4, .int i5, .int i6])), (a1, .inl (cB, 1600, .inl xF0))]) [0, 1] (by decide) rfl
            have hFc := va_free (wc := [(a0, .inr (10, [.ref a1, .int i0, .int i1, .int i2, .int i3, .int i4, .int i5, .int i6])), (a1, .inl (cB, 1600, .inl xF0))]) hD hS hA [0, 1] rfl
            refine va_calli (va_runV (As := [.int x92]) (rest := []) ⟨hx, hb, hml, hown, hwd⟩ (s_X10_byteAt l dC dI cI cZ cB cJ cM cG a0 a1 i0 i1 i2 i3 i4 i5 i6 xF0 x92 H.size (show (0 : Int) ≤ i0.toInt ∧ i0.toInt ≤ 1600 from p_0) (show (0 : Int) ≤ i4.toInt ∧ i4.toInt ≤ 1600 from p_1) (show (0 : Int) ≤ i5.toInt ∧ i5.toInt ≤ 1600 from p_2)) (cwV 1 hwd (gV kr18_8 kr18_9 kr1_1 kr5_12 kr18_10) rfl rfl rfl (by decide +kernel) ⟨Nat.le_of_ble_eq_true rfl, Nat.le_of_ble_eq_true rfl⟩) (kPreV hPc hK hDc (ci := 10) (q0 := 0) rfl rfl) rfl rfl hl.1 rfl (lv_room (Nat.le_of_ble_eq_true rfl)) dX10_isWord_43 ⟨Nat.le_of_ble_eq_true rfl, Nat.le_of_ble_eq_true rfl⟩) hS (fun q _ h => hFc q h) hFc (fun r93 u94 t H1 locs ht9 hvm hw hB hz1 hk1 hS => ?_)
            obtain ⟨hw95, hw96, -⟩ := hw
            replace hw95 : (-1 : Int) ≤ r93.toInt ∧ r93.toInt ≤ 255 := hw95
            obtain ⟨hP1, hD1⟩ := hB
            rw [ht9] at hP1
            obtain ⟨hP, hD⟩ := va_join (wr := []) (w1 := [(a0, .inr (10, [.ref a1, .int i0, .int i1, .int i2, .int i3, .int i4, .int i5, .int i6])), (a1, .inl (cB, 1600, .inl xF0))]) hP hD [0, 1] [] rfl rfl (by decide) (by decide) hk1 hFc hP1 hD1
            generalize H1 = H at hP hS ⊢
            replace hP : va_P (dC, dI) vwCl [(a0, .inr (10, [.ref a1, .int i0, .int i1, .int i2, .int i3, .int i4, .int i5, .int i6])), (a1, .inl (cB, 1600, .inl xF0))] H := hP
            replace hD : va_D A [(a0, .inr (10, [.ref a1, .int i0, .int i1, .int i2, .int i3, .int i4, .int i5, .int i6])), (a1, .inl (cB, 1600, .inl xF0))] := hD
            refine lv_aload_n hx hb dX10_isWord_46 rfl (lv_at hl 1 rfl) ?_
            refine lv_iload_n hx hb dX10_isWord_47 rfl (lv_at hl 2 rfl) ?_
            have hPc := hP.sub (ws' := []) [] rfl
            have hDc := hD.sub (ws' := []) [] (by decide) rfl
            have hFc := va_free (wc := []) hD hS hA [] rfl
            refine va_calli (va_runV (As := [.int w2_1]) (rest := [.int r93]) ⟨hx, hb, hml, hown, hwd⟩ (s_J0_charAt_5068e l dC dI cI cZ cB cJ cM cG w2_1 sa sav sn sf H.size (by omega)) (cwV 1 hwd (gV kr20_7 kr20_8 kr20_9 kr6_0 kr20_10) rfl rfl rfl (by decide +kernel) ⟨Nat.le_of_ble_eq_true rfl, Nat.le_of_ble_eq_true rfl⟩) (kPreVS hPc hK hDc (NS_st _ _ _ _) hN hS hFc hN.2.2.1) rfl rfl hl.1 rfl (lv_room (Nat.le_of_ble_eq_true rfl)) dX10_isWord_48 ⟨Nat.le_of_ble_eq_true rfl, Nat.le_of_ble_eq_true rfl⟩) hS (fun q _ h => hFc q h) hFc (fun r97 u98 t H1 locs ht9 hvm hw hB hz1 hk1 hS => ?_)
            obtain ⟨hw99, hw100, -⟩ := hw
            replace hw99 : (0 : Int) ≤ r97.toInt ∧ r97.toInt ≤ 255 := hw99
            obtain ⟨hP1, hD1⟩ := hB
            rw [ht9] at hP1
            obtain ⟨hP, hD⟩ := va_join (wr := [(a0, .inr (10, [.ref a1, .int i0, .int i1, .int i2, .int i3, .int i4, .int i5, .int i6])), (a1, .inl (cB, 1600, .inl xF0))]) (w1 := []) hP hD [] [0, 1] rfl rfl (by decide) (by decide) hk1 hFc hP1 hD1
            generalize H1 = H at hP hS ⊢
            replace hP : va_P (dC, dI) vwCl [(a0, .inr (10, [.ref a1, .int i0, .int i1, .int i2, .int i3, .int i4, .int i5, .int i6])), (a1, .inl (cB, 1600, .inl xF0))] H := hP
            replace hD : va_D A [(a0, .inr (10, [.ref a1, .int i0, .int i1, .int i2, .int i3, .int i4, .int i5, .int i6])), (a1, .inl (cB, 1600, .inl xF0))] := hD
            refine lv_icmp_eq (tgt := 56) hx hb dX10_isWord_51 (by decide) (fun c101 => ?_) (fun c101 => ?_)
            · rw [ki_eq] at c101
              have hw96q := hw96 (by omega)
              clear hw96
              obtain ⟨x102, ex102⟩ : ∃ y : Int32, y = w2_1 + 1 := ⟨_, rfl⟩
              refine lv_iinc (v := x102) (lv' := [(2, .int x102), (0, .ref a0), (1, .ref sa)]) hx hb dX10_isWord_56 hl (k := 2) rfl (by rw [ex102]; rfl) (by decide) rfl (fun ls hl => ?_)
              have tx102 := ia_add (a := w2_1) (b := (1 : Int32)) (by omega) (by omega)
              rw [← ex102] at tx102
              refine lv_goto (tgt := 28) hx hb dX10_isWord_59 (by decide) ?_
              exact ih1 _ _ ls x102 (show (0 : Int) ≤ x102.toInt ∧ x102.toInt ≤ 10 from ⟨by omega, by omega⟩) (by omega) (hP.sub (ws' := [(a0, .inr (10, [.ref a1, .int i0, .int i1, .int i2, .int i3, .int i4, .int i5, .int i6])), (a1, .inl (cB, 1600, .inl xF0))]) [0, 1] rfl) (hD.sub (ws' := [(a0, .inr (10, [.ref a1, .int i0, .int i1, .int i2, .int i3, .int i4, .int i5, .int i6])), (a1, .inl (cB, 1600, .inl xF0))]) [0, 1] (by decide) rfl) hS (lv_sub hl [1, 2, 0] rfl)
            · rw [ki_eq] at c101
              refine lv_iconst (v := 0) hx hb dX10_isWord_54 (by decide) ?_
              have hP9 := hP.sub (ws' := [(a0, .inr (10, [.ref a1, .int i0, .int i1, .int i2, .int i3, .int i4, .int i5, .int i6])), (a1, .inl (cB, 1600, .inl xF0))]) [0, 1] rfl
              have hD9 := hD.sub (ws' := [(a0, .inr (10, [.ref a1, .int i0, .int i1, .int i2, .int i3, .int i4, .int i5, .int i6])), (a1, .inl (cB, 1600, .inl xF0))]) [0, 1] (by decide) rfl
              rw [hQ]
              exact W.zret (v := 0) hx hb hr (by decide) (fun t ht hW => ⟨⟨0, (), rfl, ⟨(show (0 : Int) ≤ (0 : Int32).toInt ∧ (0 : Int32).toInt ≤ 1 from ⟨by omega, by omega⟩), trivial⟩, (by rw [ht]; exact hP9), hD9⟩, hS.F ht⟩) hS.2.2 dX10_isWord_55
      exact lp1 _ _ _ ls (0) (show (0 : Int) ≤ (0 : Int32).toInt ∧ (0 : Int32).toInt ≤ 10 from ⟨by omega, by omega⟩) (Nat.lt_succ_self _) (hP.sub (ws' := [(a0, .inr (10, [.ref a1, .int i0, .int i1, .int i2, .int i3, .int i4, .int i5, .int i6])), (a1, .inl (cB, 1600, .inl xF0))]) [0, 1] rfl) (hD.sub (ws' := [(a0, .inr (10, [.ref a1, .int i0, .int i1, .int i2, .int i3, .int i4, .int i5, .int i6])), (a1, .inl (cB, 1600, .inl xF0))]) [0, 1] (by decide) rfl) hS (lv_sub hl [1, 2, 0] rfl)
    · rw [ki_eq] at c7
      refine lv_iconst (v := 0) hx hb dX10_isWord_24 (by decide) ?_
      have hP9 := hP.sub (ws' := [(a0, .inr (10, [.ref a1, .int i0, .int i1, .int i2, .int i3, .int i4, .int i5, .int i6])), (a1, .inl (cB, 1600, .inl xF0))]) [0, 1] rfl
      have hD9 := hD.sub (ws' := [(a0, .inr (10, [.ref a1, .int i0, .int i1, .int i2, .int i3, .int i4, .int i5, .int i6])), (a1, .inl (cB, 1600, .inl xF0))]) [0, 1] (by decide) rfl
      rw [hQ]
      exact W.zret (v := 0) hx hb hr (by decide) (fun t ht hW => ⟨⟨0, (), rfl, ⟨(show (0 : Int) ≤ (0 : Int32).toInt ∧ (0 : Int32).toInt ≤ 1 from ⟨by omega, by omega⟩), trivial⟩, (by rw [ht]; exact hP9), hD9⟩, hS.F ht⟩) hS.2.2 dX10_isWord_25
theorem dX10_takeWord_0 : decode cX10_takeWord 0 = .ok (.aload_n 0, 1) := by decide +kernel
theorem dX10_takeWord_1 : decode cX10_takeWord 1 = .ok (.getfield 22, 3) := by decide +kernel
theorem dX10_takeWord_4 : decode cX10_takeWord 4 = .ok (.ifCond .eq 4, 3) := by decide +kernel
theorem dX10_takeWord_7 : decode cX10_takeWord 7 = .ok (.return_, 1) := by decide +kernel
theorem dX10_takeWord_8 : decode cX10_takeWord 8 = .ok (.aload_n 0, 1) := by decide +kernel
theorem dX10_takeWord_9 : decode cX10_takeWord 9 = .ok (.aload_n 1, 1) := by decide +kernel
theorem dX10_takeWord_10 : decode cX10_takeWord 10 = .ok (.invokevirtual 66, 3) := by decide +kernel
theorem dX10_takeWord_13 : decode cX10_takeWord 13 = .ok (.ifCond .eq 10, 3) := by decide +kernel
theorem dX10_takeWord_16 : decode cX10_takeWord 16 = .ok (.aload_n 0, 1) := by decide +kernel
theorem dX10_takeWord_17 : decode cX10_takeWord 17 = .ok (.invokevirtual 28, 3) := by decide +kernel
theorem dX10_takeWord_20 : decode cX10_takeWord 20 = .ok (.goto 8, 3) := by decide +kernel
theorem dX10_takeWord_23 : decode cX10_takeWord 23 = .ok (.aload_n 0, 1) := by decide +kernel
theorem dX10_takeWord_24 : decode cX10_takeWord 24 = .ok (.iconst 1, 1) := by decide +kernel
theorem dX10_takeWord_25 : decode cX10_takeWord 25 = .ok (.invokevirtual 70, 3) := by decide +kernel
theorem dX10_takeWord_28 : decode cX10_takeWord 28 = .ok (.return_, 1) := by decide +kernel
set_option maxHeartbeats 4000000 in
set_option maxRecDepth 100000 in
theorem s_X10_takeWord (l : Launch) (dC : Nat → ClassId) (dI : Nat → Nat → Nat) (cI cZ cB cJ cM cG : ClassId) (a0 a1 : Nat) (i0 i1 i2 i3 i4 i5 i6 : Int32) (xF0 : Nat → Int32) (sa sav sn : Nat) (sf : Nat → Int32) (sz : Nat) (p_0 : (0 : Int) ≤ i0.toInt ∧ i0.toInt ≤ 1600) (p_1 : (0 : Int) ≤ i4.toInt ∧ i4.toInt ≤ 1600) (p_2 : (0 : Int) ≤ i5.toInt ∧ i5.toInt ≤ 1600) : Met l yX10_takeWord (kw yX10_takeWord cX10_takeWord 2 none) ({ frames := 5, cells := 0, slots := 0, locals := 107 } : Room) (va_Pc [.ref a0, .ref sa] (kPreX dC dI [(cI, .int), (cZ, .boolean), (cB, .byte), (cJ, .long), (cM, .object RX2), (cG, .array .int)] [(a0, .inr (10, [.ref a1, .int i0, .int i1, .int i2, .int i3, .int i4, .int i5, .int i6])), (a1, .inl (cB, 1600, .inl xF0))] sz (NS sa sav sn sf))) (va_Qv (fun (u9 : (Nat → Int32) × (Nat → Nat → Int32) × (Nat → Nat → Int64)) => ((0 : Int) ≤ (u9.1 3).toInt ∧ (u9.1 3).toInt ≤ 1600) ∧ ((0 : Int) ≤ (u9.1 4).toInt ∧ (u9.1 4).toInt ≤ 1600) ∧ True) (fun u9 t => va_P (dC, dI) vwCl [(a0, .inr (10, [.ref a1, .int i0, .int (u9.1 0), .int (u9.1 1), .int (u9.1 2), .int (u9.1 3), .int (u9.1 4), .int (u9.1 5)])), (a1, .inl (cB, 1600, .inl xF0))] t.heap ∧ va_D (va_A [(a0, .inr (10, [.ref a1, .int i0, .int i1, .int i2, .int i3, .int i4, .int i5, .int i6])), (a1, .inl (cB, 1600, .inl xF0))] sz) [(a0, .inr (10, [.ref a1, .int i0, .int (u9.1 0), .int (u9.1 1), .int (u9.1 2), .int (u9.1 3), .int (u9.1 4), .int (u9.1 5)])), (a1, .inl (cB, 1600, .inl xF0))]) (va_A [(a0, .inr (10, [.ref a1, .int i0, .int i1, .int i2, .int i3, .int i4, .int i5, .int i6])), (a1, .inl (cB, 1600, .inl xF0))] sz)) 0 0 (va_A [(a0, .inr (10, [.ref a1, .int i0, .int i1, .int i2, .int i3, .int i4, .int i5, .int i6])), (a1, .inl (cB, 1600, .inl xF0))] sz) := by
  refine kEnterX (by decide) (Nat.le_of_ble_eq_true rfl) ?_
  intro p e s m below meth c ls hx hb hr hml hown hlocks hin hwd hsz hP hK hD hN hl
  subst hsz
  generalize hAe : va_A [(a0, .inr (10, [.ref a1, .int i0, .int i1, .int i2, .int i3, .int i4, .int i5, .int i6])), (a1, .inl (cB, 1600, .inl xF0))] s.heap.size = A at hD hN ⊢
  have hA : ∀ q : Nat, s.heap.size ≤ q → A q := fun q h => by rw [← hAe]; exact Or.inr h
  have hS : va_S A s.heap s.heap [] := va_S.rf
  have hl : lv_has ls 2 [(0, .ref a0), (1, .ref sa)] := hl
  obtain ⟨Q, hQ⟩ : ∃ Q, Q = MQ below (va_Qv (fun (u9 : (Nat → Int32) × (Nat → Nat → Int32) × (Nat → Nat → Int64)) => ((0 : Int) ≤ (u9.1 3).toInt ∧ (u9.1 3).toInt ≤ 1600) ∧ ((0 : Int) ≤ (u9.1 4).toInt ∧ (u9.1 4).toInt ≤ 1600) ∧ True) (fun u9 t => va_P (dC, dI) vwCl [(a0, .inr (10, [.ref a1, .int i0, .int (u9.1 0), .int (u9.1 1), .int (u9.1 2), .int (u9.1 3), .int (u9.1 4), .int (u9.1 5)])), (a1, .inl (cB, 1600, .inl xF0))] t.heap ∧ va_D A [(a0, .inr (10, [.ref a1, .int i0, .int (u9.1 0), .int (u9.1 1), .int (u9.1 2), .int (u9.1 3), .int (u9.1 4), .int (u9.1 5)])), (a1, .inl (cB, 1600, .inl xF0))]) A) ([.ref a0, .ref sa] : List Value).toArray s 0 0 A := ⟨_, rfl⟩
  rw [← hQ]
  have k0 : (0 : Int32).toInt = 0 := by decide
  refine lv_aload_n hx hb dX10_takeWord_0 rfl (lv_at hl 0 rfl) ?_
  refine va_get (D := (dC, dI)) (ci := 10) (v := .int i1) (C := RX10) (T := TX10) (N := 8) hx hb hwd inlX10 hown hK hP 0 rfl rfl 2 (by decide) (hwd _ kr7_0) (fun _ h9 => h9) rfl dX10_takeWord_1 ?_
  refine lv_if_eq (tgt := 8) hx hb dX10_takeWord_4 (by decide) (fun c1 => ?_) (fun c1 => ?_)
  · rw [ki_eq] at c1
    refine lv_aload_n hx hb dX10_takeWord_8 rfl (lv_at hl 0 rfl) ?_
    refine lv_aload_n hx hb dX10_takeWord_9 rfl (lv_at hl 1 rfl) ?_
    have hPc := hP.sub (ws' := [(a0, .inr (10, [.ref a1, .int i0, .int i1, .int i2, .int i3, .int i4, .int i5, .int i6])), (a1, .inl (cB, 1600, .inl xF0))]) [0, 1] rfl
    have hDc := hD.sub (ws' := [(a0, .inr (10, [.ref a1, .int i0, .int i1, .int i2, .int i3, .int i4, .int i5, .int i6])), (a1, .inl (cB, 1600, .inl xF0))]) [0, 1] (by decide) rfl
    have hFc := va_free (wc := [(a0, .inr (10, [.ref a1, .int i0, .int i1, .int i2, .int i3, .int i4, .int i5, .int i6])), (a1, .inl (cB, 1600, .inl xF0))]) hD hS hA [0, 1] rfl
    refine va_calli (va_runV (As := [.ref sa]) (rest := []) ⟨hx, hb, hml, hown, hwd⟩ (s_X10_isWord l dC dI cI cZ cB cJ cM cG a0 a1 i0 i1 i2 i3 i4 i5 i6 xF0 sa sav sn sf s.heap.size (show (0 : Int) ≤ i0.toInt ∧ i0.toInt ≤ 1600 from p_0) (show (0 : Int) ≤ i4.toInt ∧ i4.toInt ≤ 1600 from p_1) (show (0 : Int) ≤ i5.toInt ∧ i5.toInt ≤ 1600 from p_2)) (cwV 1 hwd (gV kr19_18 kr19_19 kr19_20 kr5_12 kr19_21) rfl rfl rfl (by decide +kernel) ⟨Nat.le_of_ble_eq_true rfl, Nat.le_of_ble_eq_true rfl⟩) (kPreVX hPc hK hDc (NS_st _ _ _ _) hN hS hFc (ci := 10) (q0 := 0) rfl rfl) rfl rfl hl.1 rfl (lv_room (Nat.le_of_ble_eq_true rfl)) dX10_takeWord_10 ⟨Nat.le_of_ble_eq_true rfl, Nat.le_of_ble_eq_true rfl⟩) hS (fun q _ h => hFc q h) hFc (fun r2 u3 t H1 locs ht9 hvm hw hB hz1 hk1 hS => ?_)
    obtain ⟨hw4, -⟩ := hw
    replace hw4 : (0 : Int) ≤ r2.toInt ∧ r2.toInt ≤ 1 := hw4
    obtain ⟨hP1, hD1⟩ := hB
    rw [ht9] at hP1
    obtain ⟨hP, hD⟩ := va_join (wr := []) (w1 := [(a0, .inr (10, [.ref a1, .int i0, .int i1, .int i2, .int i3, .int i4, .int i5, .int i6])), (a1, .inl (cB, 1600, .inl xF0))]) hP hD [0, 1] [] rfl rfl (by decide) (by decide) hk1 hFc hP1 hD1
    generalize H1 = H at hP hS ⊢
    replace hP : va_P (dC, dI) vwCl [(a0, .inr (10, [.ref a1, .int i0, .int i1, .int i2, .int i3, .int i4, .int i5, .int i6])), (a1, .inl (cB, 1600, .inl xF0))] H := hP
    replace hD : va_D A [(a0, .inr (10, [.ref a1, .int i0, .int i1, .int i2, .int i3, .int i4, .int i5, .int i6])), (a1, .inl (cB, 1600, .inl xF0))] := hD
    refine lv_if_eq (tgt := 23) hx hb dX10_takeWord_13 (by decide) (fun c5 => ?_) (fun c5 => ?_)
    · rw [ki_eq] at c5
      refine lv_aload_n hx hb dX10_takeWord_23 rfl (lv_at hl 0 rfl) ?_
      refine lv_iconst (v := 1) hx hb dX10_takeWord_24 (by decide) ?_
      have hPc := hP.sub (ws' := [(a0, .inr (10, [.ref a1, .int i0, .int i1, .int i2, .int i3, .int i4, .int i5, .int i6]))]) [0] rfl
      have hDc := hD.sub (ws' := [(a0, .inr (10, [.ref a1, .int i0, .int i1, .int i2, .int i3, .int i4, .int i5, .int i6]))]) [0] (by decide) rfl
      have hFc := va_free (wc := [(a0, .inr (10, [.ref a1, .int i0, .int i1, .int i2, .int i3, .int i4, .int i5, .int i6]))]) hD hS hA [0] rfl
      refine va_callv (va_runV (As := [.int 1]) (rest := []) ⟨hx, hb, hml, hown, hwd⟩ (s_X10_blame l dC dI cI cZ cB cJ cM cG a0 a1 i0 i1 i2 i3 i4 i5 i6 1 H.size (show (0 : Int) ≤ i0.toInt ∧ i0.toInt ≤ 1600 from p_0) (show (0 : Int) ≤ i4.toInt ∧ i4.toInt ≤ 1600 from p_1) (show (0 : Int) ≤ i5.toInt ∧ i5.toInt ≤ 1600 from p_2)) (cwV 1 hwd (gV kr21_17 kr21_18 kr21_19 kr5_12 kr21_20) rfl rfl rfl (by decide +kernel) ⟨Nat.le_of_ble_eq_true rfl, Nat.le_of_ble_eq_true rfl⟩) (kPreV hPc hK hDc (ci := 10) (q0 := 0) rfl rfl) rfl rfl hl.1 rfl (lv_room (Nat.le_of_ble_eq_true rfl)) dX10_takeWord_25 ⟨Nat.le_of_ble_eq_true rfl, Nat.le_of_ble_eq_true rfl⟩) hS (fun q _ h => hFc q h) hFc (fun u7 t H1 locs ht9 hvm hw hB hz1 hk1 hS => ?_)
      obtain ⟨u8, U8, V8⟩ := u7
      obtain ⟨hP1, hD1⟩ := hB
      rw [ht9] at hP1
      obtain ⟨hP, hD⟩ := va_join (wr := [(a1, .inl (cB, 1600, .inl xF0))]) (w1 := [(a0, .inr (10, [.ref a1, .int i0, .int (u8 0), .int (u8 1), .int i3, .int i4, .int i5, .int i6]))]) hP hD [0] [1] rfl rfl (by decide) (by decide) hk1 hFc hP1 hD1
      generalize H1 = H at hP hS ⊢
      replace hP : va_P (dC, dI) vwCl [(a1, .inl (cB, 1600, .inl xF0)), (a0, .inr (10, [.ref a1, .int i0, .int (u8 0), .int (u8 1), .int i3, .int i4, .int i5, .int i6]))] H := hP
      replace hD : va_D A [(a1, .inl (cB, 1600, .inl xF0)), (a0, .inr (10, [.ref a1, .int i0, .int (u8 0), .int (u8 1), .int i3, .int i4, .int i5, .int i6]))] := hD
      have hP9 := hP.sub (ws' := [(a0, .inr (10, [.ref a1, .int i0, .int (u8 0), .int (u8 1), .int i3, .int i4, .int i5, .int i6])), (a1, .inl (cB, 1600, .inl xF0))]) [1, 0] rfl
      have hD9 := hD.sub (ws' := [(a0, .inr (10, [.ref a1, .int i0, .int (u8 0), .int (u8 1), .int i3, .int i4, .int i5, .int i6])), (a1, .inl (cB, 1600, .inl xF0))]) [1, 0] (by decide) rfl
      rw [hQ]
      exact W.vret hx hb hr (fun t ht hW => ⟨⟨(pickG 0 [(u8 0), (u8 1), i3, i4, i5, i6], pickG (fun _ => 0) [], pickG (fun _ => 0) []), rfl, ⟨(show (0 : Int) ≤ i4.toInt ∧ i4.toInt ≤ 1600 from p_1), (show (0 : Int) ≤ i5.toInt ∧ i5.toInt ≤ 1600 from p_2), trivial⟩, (by rw [ht]; exact hP9), hD9⟩, hS.F ht⟩) hS.2.2 dX10_takeWord_28
    · rw [ki_eq] at c5
      refine lv_aload_n hx hb dX10_takeWord_16 rfl (lv_at hl 0 rfl) ?_
      have hPc := hP.sub (ws' := [(a0, .inr (10, [.ref a1, .int i0, .int i1, .int i2, .int i3, .int i4, .int i5, .int i6])), (a1, .inl (cB, 1600, .inl xF0))]) [0, 1] rfl
      have hDc := hD.sub (ws' := [(a0, .inr (10, [.ref a1, .int i0, .int i1, .int i2, .int i3, .int i4, .int i5, .int i6])), (a1, .inl (cB, 1600, .inl xF0))]) [0, 1] (by decide) rfl
      have hFc := va_free (wc := [(a0, .inr (10, [.ref a1, .int i0, .int i1, .int i2, .int i3, .int i4, .int i5, .int i6])), (a1, .inl (cB, 1600, .inl xF0))]) hD hS hA [0, 1] rfl
      refine va_callv (va_runV (As := []) (rest := []) ⟨hx, hb, hml, hown, hwd⟩ (s_X10_readToken l dC dI cI cZ cB cJ cM cG a0 a1 i0 i1 i2 i3 i4 i5 i6 xF0 H.size (show (0 : Int) ≤ i0.toInt ∧ i0.toInt ≤ 1600 from p_0) (show (0 : Int) ≤ i4.toInt ∧ i4.toInt ≤ 1600 from p_1) (show (0 : Int) ≤ i5.toInt ∧ i5.toInt ≤ 1600 from p_2)) (cwV 0 hwd (gV kr18_1 kr18_2 kr18_3 kr5_12 kr18_4) rfl rfl rfl (by decide +kernel) ⟨Nat.le_of_ble_eq_true rfl, Nat.le_of_ble_eq_true rfl⟩) (kPreV hPc hK hDc (ci := 10) (q0 := 0) rfl rfl) rfl rfl hl.1 rfl (lv_room (Nat.le_of_ble_eq_true rfl)) dX10_takeWord_17 ⟨Nat.le_of_ble_eq_true rfl, Nat.le_of_ble_eq_true rfl⟩) hS (fun q _ h => hFc q h) hFc (fun u10 t H1 locs ht9 hvm hw hB hz1 hk1 hS => ?_)
      obtain ⟨u11, U11, V11⟩ := u10
      obtain ⟨hw12, hw13, -⟩ := hw
      replace hw12 : (0 : Int) ≤ (u11 1).toInt ∧ (u11 1).toInt ≤ 1600 := hw12
      replace hw13 : (0 : Int) ≤ (u11 2).toInt ∧ (u11 2).toInt ≤ 1600 := hw13
      obtain ⟨hP1, hD1⟩ := hB
      rw [ht9] at hP1
      obtain ⟨hP, hD⟩ := va_join (wr := []) (w1 := [(a0, .inr (10, [.ref a1, .int i0, .int i1, .int i2, .int (u11 0), .int (u11 1), .int (u11 2), .int (u11 3)])), (a1, .inl (cB, 1600, .inl xF0))]) hP hD [0, 1] [] rfl rfl (by decide) (by decide) hk1 hFc hP1 hD1
      generalize H1 = H at hP hS ⊢
      replace hP : va_P (dC, dI) vwCl [(a0, .inr (10, [.ref a1, .int i0, .int i1, .int i2, .int (u11 0), .int (u11 1), .int (u11 2), .int (u11 3)])), (a1, .inl (cB, 1600, .inl xF0))] H := hP
      replace hD : va_D A [(a0, .inr (10, [.ref a1, .int i0, .int i1, .int i2, .int (u11 0), .int (u11 1), .int (u11 2), .int (u11 3)])), (a1, .inl (cB, 1600, .inl xF0))] := hD
      refine lv_goto (tgt := 28) hx hb dX10_takeWord_20 (by decide) ?_
      have hP9 := hP.sub (ws' := [(a0, .inr (10, [.ref a1, .int i0, .int i1, .int i2, .int (u11 0), .int (u11 1), .int (u11 2), .int (u11 3)])), (a1, .inl (cB, 1600, .inl xF0))]) [0, 1] rfl
      have hD9 := hD.sub (ws' := [(a0, .inr (10, [.ref a1, .int i0, .int i1, .int i2, .int (u11 0), .int (u11 1), .int (u11 2), .int (u11 3)])), (a1, .inl (cB, 1600, .inl xF0))]) [0, 1] (by decide) rfl
      rw [hQ]
      exact W.vret hx hb hr (fun t ht hW => ⟨⟨(pickG 0 [i1, i2, (u11 0), (u11 1), (u11 2), (u11 3)], pickG (fun _ => 0) [], pickG (fun _ => 0) []), rfl, ⟨(show (0 : Int) ≤ (u11 1).toInt ∧ (u11 1).toInt ≤ 1600 from hw12), (show (0 : Int) ≤ (u11 2).toInt ∧ (u11 2).toInt ≤ 1600 from hw13), trivial⟩, (by rw [ht]; exact hP9), hD9⟩, hS.F ht⟩) hS.2.2 dX10_takeWord_28
  · rw [ki_eq] at c1
    have hP9 := hP.sub (ws' := [(a0, .inr (10, [.ref a1, .int i0, .int i1, .int i2, .int i3, .int i4, .int i5, .int i6])), (a1, .inl (cB, 1600, .inl xF0))]) [0, 1] rfl
    have hD9 := hD.sub (ws' := [(a0, .inr (10, [.ref a1, .int i0, .int i1, .int i2, .int i3, .int i4, .int i5, .int i6])), (a1, .inl (cB, 1600, .inl xF0))]) [0, 1] (by decide) rfl
    rw [hQ]
    exact W.vret hx hb hr (fun t ht hW => ⟨⟨(pickG 0 [i1, i2, i3, i4, i5, i6], pickG (fun _ => 0) [], pickG (fun _ => 0) []), rfl, ⟨(show (0 : Int) ≤ i4.toInt ∧ i4.toInt ≤ 1600 from p_1), (show (0 : Int) ≤ i5.toInt ∧ i5.toInt ≤ 1600 from p_2), trivial⟩, (by rw [ht]; exact hP9), hD9⟩, hS.F ht⟩) hS.2.2 dX10_takeWord_7
theorem dX7_clear_0 : decode cX7_clear 0 = .ok (.aload_n 0, 1) := by decide +kernel
theorem dX7_clear_1 : decode cX7_clear 1 = .ok (.iconst 0, 1) := by decide +kernel
theorem dX7_clear_2 : decode cX7_clear 2 = .ok (.putfield 15, 3) := by decide +kernel
theorem dX7_clear_5 : decode cX7_clear 5 = .ok (.aload_n 0, 1) := by decide +kernel
theorem dX7_clear_6 : decode cX7_clear 6 = .ok (.iconst 0, 1) := by decide +kernel
theorem dX7_clear_7 : decode cX7_clear 7 = .ok (.putfield 18, 3) := by decide +kernel
theorem dX7_clear_10 : decode cX7_clear 10 = .ok (.aload_n 0, 1) := by decide +kernel
theorem dX7_clear_11 : decode cX7_clear 11 = .ok (.iconst 0, 1) := by decide +kernel
theorem dX7_clear_12 : decode cX7_clear 12 = .ok (.putfield 21, 3) := by decide +kernel
theorem dX7_clear_15 : decode cX7_clear 15 = .ok (.aload_n 0, 1) := by decide +kernel
theorem dX7_clear_16 : decode cX7_clear 16 = .ok (.iconst 0, 1) := by decide +kernel
theorem dX7_clear_17 : decode cX7_clear 17 = .ok (.putfield 24, 3) := by decide +kernel
theorem dX7_clear_20 : decode cX7_clear 20 = .ok (.aload_n 0, 1) := by decide +kernel
theorem dX7_clear_21 : decode cX7_clear 21 = .ok (.iconst 0, 1) := by decide +kernel
theorem dX7_clear_22 : decode cX7_clear 22 = .ok (.putfield 27, 3) := by decide +kernel
theorem dX7_clear_25 : decode cX7_clear 25 = .ok (.aload_n 0, 1) := by decide +kernel
theorem dX7_clear_26 : decode cX7_clear 26 = .ok (.iconst 0, 1) := by decide +kernel
theorem dX7_clear_27 : decode cX7_clear 27 = .ok (.putfield 30, 3) := by decide +kernel
theorem dX7_clear_30 : decode cX7_clear 30 = .ok (.aload_n 0, 1) := by decide +kernel
theorem dX7_clear_31 : decode cX7_clear 31 = .ok (.iconst (-1), 1) := by decide +kernel
theorem dX7_clear_32 : decode cX7_clear 32 = .ok (.putfield 9, 3) := by decide +kernel
theorem dX7_clear_35 : decode cX7_clear 35 = .ok (.aload_n 0, 1) := by decide +kernel
theorem dX7_clear_36 : decode cX7_clear 36 = .ok (.iconst 0, 1) := by decide +kernel
theorem dX7_clear_37 : decode cX7_clear 37 = .ok (.putfield 33, 3) := by decide +kernel
theorem dX7_clear_40 : decode cX7_clear 40 = .ok (.return_, 1) := by decide +kernel
set_option maxHeartbeats 4000000 in
set_option maxRecDepth 100000 in
theorem s_X7_clear (l : Launch) (dC : Nat → ClassId) (dI : Nat → Nat → Nat) (cI cZ cB cJ cM cG : ClassId) (a0 : Nat) (i0 i1 i2 i3 i4 i5 i6 i7 : Int32) (sz : Nat) : Met l yX7_clear (kw yX7_clear cX7_clear 1 none) ({ frames := 0, cells := 0, slots := 0, locals := 0 } : Room) (va_Pc [.ref a0] (kPre dC dI [(cI, .int), (cZ, .boolean), (cB, .byte), (cJ, .long), (cM, .object RX2), (cG, .array .int)] [(a0, .inr (7, [.int i0, .int i1, .int i2, .int i3, .int i4, .int i5, .int i6, .int i7]))] sz)) (va_Qv (fun (u9 : (Nat → Int32) × (Nat → Nat → Int32) × (Nat → Nat → Int64)) => True) (fun u9 t => va_P (dC, dI) vwCl [(a0, .inr (7, [.int (u9.1 0), .int (u9.1 1), .int (u9.1 2), .int (u9.1 3), .int (u9.1 4), .int (u9.1 5), .int (u9.1 6), .int (u9.1 7)]))] t.heap ∧ va_D (va_A [(a0, .inr (7, [.int i0, .int i1, .int i2, .int i3, .int i4, .int i5, .int i6, .int i7]))] sz) [(a0, .inr (7, [.int (u9.1 0), .int (u9.1 1), .int (u9.1 2), .int (u9.1 3), .int (u9.1 4), .int (u9.1 5), .int (u9.1 6), .int (u9.1 7)]))]) (va_A [(a0, .inr (7, [.int i0, .int i1, .int i2, .int i3, .int i4, .int i5, .int i6, .int i7]))] sz)) 0 0 (va_A [(a0, .inr (7, [.int i0, .int i1, .int i2, .int i3, .int i4, .int i5, .int i6, .int i7]))] sz) := by
  refine kEnter (by decide) (Nat.le_of_ble_eq_true rfl) ?_
  intro p e s m below meth c ls hx hb hr hml hown hlocks hin hwd hsz hP hK hD hl
  subst hsz
  generalize hAe : va_A [(a0, .inr (7, [.int i0, .int i1, .int i2, .int i3, .int i4, .int i5, .int i6, .int i7]))] s.heap.size = A at hD ⊢
  have hA : ∀ q : Nat, s.heap.size ≤ q → A q := fun q h => by rw [← hAe]; exact Or.inr h
  have hS : va_S A s.heap s.heap [] := va_S.rf
  have hl : lv_has ls 1 [(0, .ref a0)] := hl
  obtain ⟨Q, hQ⟩ : ∃ Q, Q = MQ below (va_Qv (fun (u9 : (Nat → Int32) × (Nat → Nat → Int32) × (Nat → Nat → Int64)) => True) (fun u9 t => va_P (dC, dI) vwCl [(a0, .inr (7, [.int (u9.1 0), .int (u9.1 1), .int (u9.1 2), .int (u9.1 3), .int (u9.1 4), .int (u9.1 5), .int (u9.1 6), .int (u9.1 7)]))] t.heap ∧ va_D A [(a0, .inr (7, [.int (u9.1 0), .int (u9.1 1), .int (u9.1 2), .int (u9.1 3), .int (u9.1 4), .int (u9.1 5), .int (u9.1 6), .int (u9.1 7)]))]) A) ([.ref a0] : List Value).toArray s 0 0 A := ⟨_, rfl⟩
  rw [← hQ]
  refine lv_aload_n hx hb dX7_clear_0 rfl (lv_at hl 0 rfl) ?_
  refine lv_iconst (v := 0) hx hb dX7_clear_1 (by decide) ?_
  refine va_put (D := (dC, dI)) (ci := 7) (v := .int 0) (ty := .int) (C := RX7) (T := TX7) (N := 8) hx hb hwd inlX7 tyX7 tyX7_ok nmX7 hown hK hP hD hS 0 rfl rfl 0 (by decide) (hwd _ kr14_4) (fun _ h9 => h9) rfl (by decide +kernel) rfl rfl (Nat.le_of_ble_eq_true rfl) dX7_clear_2 (fun H locs hP hD hS => ?_)
  replace hP : va_P (dC, dI) vwCl [(a0, .inr (7, [.int 0, .int i1, .int i2, .int i3, .int i4, .int i5, .int i6, .int i7]))] H := hP
  replace hD : va_D A [(a0, .inr (7, [.int 0, .int i1, .int i2, .int i3, .int i4, .int i5, .int i6, .int i7]))] := hD
  refine lv_aload_n hx hb dX7_clear_5 rfl (lv_at hl 0 rfl) ?_
  refine lv_iconst (v := 0) hx hb dX7_clear_6 (by decide) ?_
  refine va_put (D := (dC, dI)) (ci := 7) (v := .int 0) (ty := .int) (C := RX7) (T := TX7) (N := 8) hx hb hwd inlX7 tyX7 tyX7_ok nmX7 hown hK hP hD hS 0 rfl rfl 1 (by decide) (hwd _ kr14_7) (fun _ h9 => h9) rfl (by decide +kernel) rfl rfl (Nat.le_of_ble_eq_true rfl) dX7_clear_7 (fun H locs hP hD hS => ?_)
  replace hP : va_P (dC, dI) vwCl [(a0, .inr (7, [.int 0, .int 0, .int i2, .int i3, .int i4, .int i5, .int i6, .int i7]))] H := hP
  replace hD : va_D A [(a0, .inr (7, [.int 0, .int 0, .int i2, .int i3, .int i4, .int i5, .int i6, .int i7]))] := hD
  refine lv_aload_n hx hb dX7_clear_10 rfl (lv_at hl 0 rfl) ?_
  refine lv_iconst (v := 0) hx hb dX7_clear_11 (by decide) ?_
  refine va_put (D := (dC, dI)) (ci := 7) (v := .int 0) (ty := .int) (C := RX7) (T := TX7) (N := 8) hx hb hwd inlX7 tyX7 tyX7_ok nmX7 hown hK hP hD hS 0 rfl rfl 2 (by decide) (hwd _ kr14_9) (fun _ h9 => h9) rfl (by decide +kernel) rfl rfl (Nat.le_of_ble_eq_true rfl) dX7_clear_12 (fun H locs hP hD hS => ?_)
  replace hP : va_P (dC, dI) vwCl [(a0, .inr (7, [.int 0, .int 0, .int 0, .int i3, .int i4, .int i5, .int i6, .int i7]))] H := hP
  replace hD : va_D A [(a0, .inr (7, [.int 0, .int 0, .int 0, .int i3, .int i4, .int i5, .int i6, .int i7]))] := hD
  refine lv_aload_n hx hb dX7_clear_15 rfl (lv_at hl 0 rfl) ?_
  refine lv_iconst (v := 0) hx hb dX7_clear_16 (by decide) ?_
  refine va_put (D := (dC, dI)) (ci := 7) (v := .int 0) (ty := .int) (C := RX7) (T := TX7) (N := 8) hx hb hwd inlX7 tyX7 tyX7_ok nmX7 hown hK hP hD hS 0 rfl rfl 3 (by decide) (hwd _ kr14_12) (fun _ h9 => h9) rfl (by decide +kernel) rfl rfl (Nat.le_of_ble_eq_true rfl) dX7_clear_17 (fun H locs hP hD hS => ?_)
  replace hP : va_P (dC, dI) vwCl [(a0, .inr (7, [.int 0, .int 0, .int 0, .int 0, .int i4, .int i5, .int i6, .int i7]))] H := hP
  replace hD : va_D A [(a0, .inr (7, [.int 0, .int 0, .int 0, .int 0, .int i4, .int i5, .int i6, .int i7]))] := hD
  refine lv_aload_n hx hb dX7_clear_20 rfl (lv_at hl 0 rfl) ?_
  refine lv_iconst (v := 0) hx hb dX7_clear_21 (by decide) ?_
  refine va_put (D := (dC, dI)) (ci := 7) (v := .int 0) (ty := .int) (C := RX7) (T := TX7) (N := 8) hx hb hwd inlX7 tyX7 tyX7_ok nmX7 hown hK hP hD hS 0 rfl rfl 4 (by decide) (hwd _ kr14_15) (fun _ h9 => h9) rfl (by decide +kernel) rfl rfl (Nat.le_of_ble_eq_true rfl) dX7_clear_22 (fun H locs hP hD hS => ?_)
  replace hP : va_P (dC, dI) vwCl [(a0, .inr (7, [.int 0, .int 0, .int 0, .int 0, .int 0, .int i5, .int i6, .int i7]))] H := hP
  replace hD : va_D A [(a0, .inr (7, [.int 0, .int 0, .int 0, .int 0, .int 0, .int i5, .int i6, .int i7]))] := hD
  refine lv_aload_n hx hb dX7_clear_25 rfl (lv_at hl 0 rfl) ?_
  refine lv_iconst (v := 0) hx hb dX7_clear_26 (by decide) ?_
  refine va_put (D := (dC, dI)) (ci := 7) (v := .int 0) (ty := .int) (C := RX7) (T := TX7) (N := 8) hx hb hwd inlX7 tyX7 tyX7_ok nmX7 hown hK hP hD hS 0 rfl rfl 5 (by decide) (hwd _ kr14_17) (fun _ h9 => h9) rfl (by decide +kernel) rfl rfl (Nat.le_of_ble_eq_true rfl) dX7_clear_27 (fun H locs hP hD hS => ?_)
  replace hP : va_P (dC, dI) vwCl [(a0, .inr (7, [.int 0, .int 0, .int 0, .int 0, .int 0, .int 0, .int i6, .int i7]))] H := hP
  replace hD : va_D A [(a0, .inr (7, [.int 0, .int 0, .int 0, .int 0, .int 0, .int 0, .int i6, .int i7]))] := hD
  refine lv_aload_n hx hb dX7_clear_30 rfl (lv_at hl 0 rfl) ?_
  refine lv_iconst (v := (-1)) hx hb dX7_clear_31 (by decide) ?_
  refine va_put (D := (dC, dI)) (ci := 7) (v := .int (-1)) (ty := .int) (C := RX7) (T := TX7) (N := 8) hx hb hwd inlX7 tyX7 tyX7_ok nmX7 hown hK hP hD hS 0 rfl rfl 6 (by decide) (hwd _ kr14_19) (fun _ h9 => h9) rfl (by decide +kernel) rfl rfl (Nat.le_of_ble_eq_true rfl) dX7_clear_32 (fun H locs hP hD hS => ?_)
  replace hP : va_P (dC, dI) vwCl [(a0, .inr (7, [.int 0, .int 0, .int 0, .int 0, .int 0, .int 0, .int (-1), .int i7]))] H := hP
  replace hD : va_D A [(a0, .inr (7, [.int 0, .int 0, .int 0, .int 0, .int 0, .int 0, .int (-1), .int i7]))] := hD
  refine lv_aload_n hx hb dX7_clear_35 rfl (lv_at hl 0 rfl) ?_
  refine lv_iconst (v := 0) hx hb dX7_clear_36 (by decide) ?_
  refine va_put (D := (dC, dI)) (ci := 7) (v := .int 0) (ty := .int) (C := RX7) (T := TX7) (N := 8) hx hb hwd inlX7 tyX7 tyX7_ok nmX7 hown hK hP hD hS 0 rfl rfl 7 (by decide) (hwd _ kr14_21) (fun _ h9 => h9) rfl (by decide +kernel) rfl rfl (Nat.le_of_ble_eq_true rfl) dX7_clear_37 (fun H locs hP hD hS => ?_)
  replace hP : va_P (dC, dI) vwCl [(a0, .inr (7, [.int 0, .int 0, .int 0, .int 0, .int 0, .int 0, .int (-1), .int 0]))] H := hP
  replace hD : va_D A [(a0, .inr (7, [.int 0, .int 0, .int 0, .int 0, .int 0, .int 0, .int (-1), .int 0]))] := hD
  have hP9 := hP.sub (ws' := [(a0, .inr (7, [.int 0, .int 0, .int 0, .int 0, .int 0, .int 0, .int (-1), .int 0]))]) [0] rfl
  have hD9 := hD.sub (ws' := [(a0, .inr (7, [.int 0, .int 0, .int 0, .int 0, .int 0, .int 0, .int (-1), .int 0]))]) [0] (by decide) rfl
  rw [hQ]
  exact W.vret hx hb hr (fun t ht hW => ⟨⟨(pickG 0 [0, 0, 0, 0, 0, 0, (-1), 0], pickG (fun _ => 0) [], pickG (fun _ => 0) []), rfl, trivial, (by rw [ht]; exact hP9), hD9⟩, hS.F ht⟩) hS.2.2 dX7_clear_40
theorem dX7_copyFrom_0 : decode cX7_copyFrom 0 = .ok (.aload_n 0, 1) := by decide +kernel
theorem dX7_copyFrom_1 : decode cX7_copyFrom 1 = .ok (.aload_n 1, 1) := by decide +kernel
theorem dX7_copyFrom_2 : decode cX7_copyFrom 2 = .ok (.getfield 15, 3) := by decide +kernel
theorem dX7_copyFrom_5 : decode cX7_copyFrom 5 = .ok (.putfield 15, 3) := by decide +kernel
theorem dX7_copyFrom_8 : decode cX7_copyFrom 8 = .ok (.aload_n 0, 1) := by decide +kernel
theorem dX7_copyFrom_9 : decode cX7_copyFrom 9 = .ok (.aload_n 1, 1) := by decide +kernel
theorem dX7_copyFrom_10 : decode cX7_copyFrom 10 = .ok (.getfield 18, 3) := by decide +kernel
theorem dX7_copyFrom_13 : decode cX7_copyFrom 13 = .ok (.putfield 18, 3) := by decide +kernel
theorem dX7_copyFrom_16 : decode cX7_copyFrom 16 = .ok (.aload_n 0, 1) := by decide +kernel
theorem dX7_copyFrom_17 : decode cX7_copyFrom 17 = .ok (.aload_n 1, 1) := by decide +kernel
theorem dX7_copyFrom_18 : decode cX7_copyFrom 18 = .ok (.getfield 21, 3) := by decide +kernel
theorem dX7_copyFrom_21 : decode cX7_copyFrom 21 = .ok (.putfield 21, 3) := by decide +kernel
theorem dX7_copyFrom_24 : decode cX7_copyFrom 24 = .ok (.aload_n 0, 1) := by decide +kernel
theorem dX7_copyFrom_25 : decode cX7_copyFrom 25 = .ok (.aload_n 1, 1) := by decide +kernel
theorem dX7_copyFrom_26 : decode cX7_copyFrom 26 = .ok (.getfield 24, 3) := by decide +kernel
theorem dX7_copyFrom_29 : decode cX7_copyFrom 29 = .ok (.putfield 24, 3) := by decide +kernel
theorem dX7_copyFrom_32 : decode cX7_copyFrom 32 = .ok (.aload_n 0, 1) := by decide +kernel
theorem dX7_copyFrom_33 : decode cX7_copyFrom 33 = .ok (.aload_n 1, 1) := by decide +kernel
theorem dX7_copyFrom_34 : decode cX7_copyFrom 34 = .ok (.getfield 27, 3) := by decide +kernel
theorem dX7_copyFrom_37 : decode cX7_copyFrom 37 = .ok (.putfield 27, 3) := by decide +kernel
theorem dX7_copyFrom_40 : decode cX7_copyFrom 40 = .ok (.aload_n 0, 1) := by decide +kernel
theorem dX7_copyFrom_41 : decode cX7_copyFrom 41 = .ok (.aload_n 1, 1) := by decide +kernel
theorem dX7_copyFrom_42 : decode cX7_copyFrom 42 = .ok (.getfield 30, 3) := by decide +kernel
theorem dX7_copyFrom_45 : decode cX7_copyFrom 45 = .ok (.putfield 30, 3) := by decide +kernel
theorem dX7_copyFrom_48 : decode cX7_copyFrom 48 = .ok (.aload_n 0, 1) := by decide +kernel
theorem dX7_copyFrom_49 : decode cX7_copyFrom 49 = .ok (.aload_n 1, 1) := by decide +kernel
theorem dX7_copyFrom_50 : decode cX7_copyFrom 50 = .ok (.getfield 9, 3) := by decide +kernel
theorem dX7_copyFrom_53 : decode cX7_copyFrom 53 = .ok (.putfield 9, 3) := by decide +kernel
theorem dX7_copyFrom_56 : decode cX7_copyFrom 56 = .ok (.aload_n 0, 1) := by decide +kernel
theorem dX7_copyFrom_57 : decode cX7_copyFrom 57 = .ok (.aload_n 1, 1) := by decide +kernel
theorem dX7_copyFrom_58 : decode cX7_copyFrom 58 = .ok (.getfield 33, 3) := by decide +kernel
theorem dX7_copyFrom_61 : decode cX7_copyFrom 61 = .ok (.putfield 33, 3) := by decide +kernel
theorem dX7_copyFrom_64 : decode cX7_copyFrom 64 = .ok (.return_, 1) := by decide +kernel
set_option maxHeartbeats 4000000 in
set_option maxRecDepth 100000 in
theorem s_X7_copyFrom (l : Launch) (dC : Nat → ClassId) (dI : Nat → Nat → Nat) (cI cZ cB cJ cM cG : ClassId) (a0 a1 : Nat) (i0 i1 i2 i3 i4 i5 i6 i7 i8 i9 i10 i11 i12 i13 i14 i15 : Int32) (sz : Nat) : Met l yX7_copyFrom (kw yX7_copyFrom cX7_copyFrom 2 none) ({ frames := 0, cells := 0, slots := 0, locals := 0 } : Room) (va_Pc [.ref a0, .ref a1] (kPre dC dI [(cI, .int), (cZ, .boolean), (cB, .byte), (cJ, .long), (cM, .object RX2), (cG, .array .int)] [(a0, .inr (7, [.int i0, .int i1, .int i2, .int i3, .int i4, .int i5, .int i6, .int i7])), (a1, .inr (7, [.int i8, .int i9, .int i10, .int i11, .int i12, .int i13, .int i14, .int i15]))] sz)) (va_Qv (fun (u9 : (Nat → Int32) × (Nat → Nat → Int32) × (Nat → Nat → Int64)) => True) (fun u9 t => va_P (dC, dI) vwCl [(a0, .inr (7, [.int (u9.1 0), .int (u9.1 1), .int (u9.1 2), .int (u9.1 3), .int (u9.1 4), .int (u9.1 5), .int (u9.1 6), .int (u9.1 7)])), (a1, .inr (7, [.int i8, .int i9, .int i10, .int i11, .int i12, .int i13, .int i14, .int i15]))] t.heap ∧ va_D (va_A [(a0, .inr (7, [.int i0, .int i1, .int i2, .int i3, .int i4, .int i5, .int i6, .int i7])), (a1, .inr (7, [.int i8, .int i9, .int i10, .int i11, .int i12, .int i13, .int i14, .int i15]))] sz) [(a0, .inr (7, [.int (u9.1 0), .int (u9.1 1), .int (u9.1 2), .int (u9.1 3), .int (u9.1 4), .int (u9.1 5), .int (u9.1 6), .int (u9.1 7)])), (a1, .inr (7, [.int i8, .int i9, .int i10, .int i11, .int i12, .int i13, .int i14, .int i15]))]) (va_A [(a0, .inr (7, [.int i0, .int i1, .int i2, .int i3, .int i4, .int i5, .int i6, .int i7])), (a1, .inr (7, [.int i8, .int i9, .int i10, .int i11, .int i12, .int i13, .int i14, .int i15]))] sz)) 0 0 (va_A [(a0, .inr (7, [.int i0, .int i1, .int i2, .int i3, .int i4, .int i5, .int i6, .int i7])), (a1, .inr (7, [.int i8, .int i9, .int i10, .int i11, .int i12, .int i13, .int i14, .int i15]))] sz) := by
  refine kEnter (by decide) (Nat.le_of_ble_eq_true rfl) ?_
  intro p e s m below meth c ls hx hb hr hml hown hlocks hin hwd hsz hP hK hD hl
  subst hsz
  generalize hAe : va_A [(a0, .inr (7, [.int i0, .int i1, .int i2, .int i3, .int i4, .int i5, .int i6, .int i7])), (a1, .inr (7, [.int i8, .int i9, .int i10, .int i11, .int i12, .int i13, .int i14, .int i15]))] s.heap.size = A at hD ⊢
  have hA : ∀ q : Nat, s.heap.size ≤ q → A q := fun q h => by rw [← hAe]; exact Or.inr h
  have hS : va_S A s.heap s.heap [] := va_S.rf
  have hl : lv_has ls 2 [(0, .ref a0), (1, .ref a1)] := hl
  obtain ⟨Q, hQ⟩ : ∃ Q, Q = MQ below (va_Qv (fun (u9 : (Nat → Int32) × (Nat → Nat → Int32) × (Nat → Nat → Int64)) => True) (fun u9 t => va_P (dC, dI) vwCl [(a0, .inr (7, [.int (u9.1 0), .int (u9.1 1), .int (u9.1 2), .int (u9.1 3), .int (u9.1 4), .int (u9.1 5), .int (u9.1 6), .int (u9.1 7)])), (a1, .inr (7, [.int i8, .int i9, .int i10, .int i11, .int i12, .int i13, .int i14, .int i15]))] t.heap ∧ va_D A [(a0, .inr (7, [.int (u9.1 0), .int (u9.1 1), .int (u9.1 2), .int (u9.1 3), .int (u9.1 4), .int (u9.1 5), .int (u9.1 6), .int (u9.1 7)])), (a1, .inr (7, [.int i8, .int i9, .int i10, .int i11, .int i12, .int i13, .int i14, .int i15]))]) A) ([.ref a0, .ref a1] : List Value).toArray s 0 0 A := ⟨_, rfl⟩
  rw [← hQ]
  refine lv_aload_n hx hb dX7_copyFrom_0 rfl (lv_at hl 0 rfl) ?_
  refine lv_aload_n hx hb dX7_copyFrom_1 rfl (lv_at hl 1 rfl) ?_
  refine va_get (D := (dC, dI)) (ci := 7) (v := .int i8) (C := RX7) (T := TX7) (N := 8) hx hb hwd inlX7 hown hK hP 1 rfl rfl 0 (by decide) (hwd _ kr14_4) (fun _ h9 => h9) rfl dX7_copyFrom_2 ?_
  refine va_put (D := (dC, dI)) (ci := 7) (v := .int i8) (ty := .int) (C := RX7) (T := TX7) (N := 8) hx hb hwd inlX7 tyX7 tyX7_ok nmX7 hown hK hP hD hS 0 rfl rfl 0 (by decide) (hwd _ kr14_4) (fun _ h9 => h9) rfl (by decide +kernel) rfl rfl (Nat.le_of_ble_eq_true rfl) dX7_copyFrom_5 (fun H locs hP hD hS => ?_)
  replace hP : va_P (dC, dI) vwCl [(a0, .inr (7, [.int i8, .int i1, .int i2, .int i3, .int i4, .int i5, .int i6, .int i7])), (a1, .inr (7, [.int i8, .int i9, .int i10, .int i11, .int i12, .int i13, .int i14, .int i15]))] H := hP
  replace hD : va_D A [(a0, .inr (7, [.int i8, .int i1, .int i2, .int i3, .int i4, .int i5, .int i6, .int i7])), (a1, .inr (7, [.int i8, .int i9, .int i10, .int i11, .int i12, .int i13, .int i14, .int i15]))] := hD
  refine lv_aload_n hx hb dX7_copyFrom_8 rfl (lv_at hl 0 rfl) ?_
  refine lv_aload_n hx hb dX7_copyFrom_9 rfl (lv_at hl 1 rfl) ?_
  refine va_get (D := (dC, dI)) (ci := 7) (v := .int i9) (C := RX7) (T := TX7) (N := 8) hx hb hwd inlX7 hown hK hP 1 rfl rfl 1 (by decide) (hwd _ kr14_7) (fun _ h9 => h9) rfl dX7_copyFrom_10 ?_
  refine va_put (D := (dC, dI)) (ci := 7) (v := .int i9) (ty := .int) (C := RX7) (T := TX7) (N := 8) hx hb hwd inlX7 tyX7 tyX7_ok nmX7 hown hK hP hD hS 0 rfl rfl 1 (by decide) (hwd _ kr14_7) (fun _ h9 => h9) rfl (by decide +kernel) rfl rfl (Nat.le_of_ble_eq_true rfl) dX7_copyFrom_13 (fun H locs hP hD hS => ?_)
  replace hP : va_P (dC, dI) vwCl [(a0, .inr (7, [.int i8, .int i9, .int i2, .int i3, .int i4, .int i5, .int i6, .int i7])), (a1, .inr (7, [.int i8, .int i9, .int i10, .int i11, .int i12, .int i13, .int i14, .int i15]))] H := hP
  replace hD : va_D A [(a0, .inr (7, [.int i8, .int i9, .int i2, .int i3, .int i4, .int i5, .int i6, .int i7])), (a1, .inr (7, [.int i8, .int i9, .int i10, .int i11, .int i12, .int i13, .int i14, .int i15]))] := hD
  refine lv_aload_n hx hb dX7_copyFrom_16 rfl (lv_at hl 0 rfl) ?_
  refine lv_aload_n hx hb dX7_copyFrom_17 rfl (lv_at hl 1 rfl) ?_
  refine va_get (D := (dC, dI)) (ci := 7) (v := .int i10) (C := RX7) (T := TX7) (N := 8) hx hb hwd inlX7 hown hK hP 1 rfl rfl 2 (by decide) (hwd _ kr14_9) (fun _ h9 => h9) rfl dX7_copyFrom_18 ?_
  refine va_put (D := (dC, dI)) (ci := 7) (v := .int i10) (ty := .int) (C := RX7) (T := TX7) (N := 8) hx hb hwd inlX7 tyX7 tyX7_ok nmX7 hown hK hP hD hS 0 rfl rfl 2 (by decide) (hwd _ kr14_9) (fun _ h9 => h9) rfl (by decide +kernel) rfl rfl (Nat.le_of_ble_eq_true rfl) dX7_copyFrom_21 (fun H locs hP hD hS => ?_)
  replace hP : va_P (dC, dI) vwCl [(a0, .inr (7, [.int i8, .int i9, .int i10, .int i3, .int i4, .int i5, .int i6, .int i7])), (a1, .inr (7, [.int i8, .int i9, .int i10, .int i11, .int i12, .int i13, .int i14, .int i15]))] H := hP
  replace hD : va_D A [(a0, .inr (7, [.int i8, .int i9, .int i10, .int i3, .int i4, .int i5, .int i6, .int i7])), (a1, .inr (7, [.int i8, .int i9, .int i10, .int i11, .int i12, .int i13, .int i14, .int i15]))] := hD
  refine lv_aload_n hx hb dX7_copyFrom_24 rfl (lv_at hl 0 rfl) ?_
  refine lv_aload_n hx hb dX7_copyFrom_25 rfl (lv_at hl 1 rfl) ?_
  refine va_get (D := (dC, dI)) (ci := 7) (v := .int i11) (C := RX7) (T := TX7) (N := 8) hx hb hwd inlX7 hown hK hP 1 rfl rfl 3 (by decide) (hwd _ kr14_12) (fun _ h9 => h9) rfl dX7_copyFrom_26 ?_
  refine va_put (D := (dC, dI)) (ci := 7) (v := .int i11) (ty := .int) (C := RX7) (T := TX7) (N := 8) hx hb hwd inlX7 tyX7 tyX7_ok nmX7 hown hK hP hD hS 0 rfl rfl 3 (by decide) (hwd _ kr14_12) (fun _ h9 => h9) rfl (by decide +kernel) rfl rfl (Nat.le_of_ble_eq_true rfl) dX7_copyFrom_29 (fun H locs hP hD hS => ?_)
  replace hP : va_P (dC, dI) vwCl [(a0, .inr (7, [.int i8, .int i9, .int i10, .int i11, .int i4, .int i5, .int i6, .int i7])), (a1, .inr (7, [.int i8, .int i9, .int i10, .int i11, .int i12, .int i13, .int i14, .int i15]))] H := hP
  replace hD : va_D A [(a0, .inr (7, [.int i8, .int i9, .int i10, .int i11, .int i4, .int i5, .int i6, .int i7])), (a1, .inr (7, [.int i8, .int i9, .int i10, .int i11, .int i12, .int i13, .int i14, .int i15]))] := hD
  refine lv_aload_n hx hb dX7_copyFrom_32 rfl (lv_at hl 0 rfl) ?_
  refine lv_aload_n hx hb dX7_copyFrom_33 rfl (lv_at hl 1 rfl) ?_
  refine va_get (D := (dC, dI)) (ci := 7) (v := .int i12) (C := RX7) (T := TX7) (N := 8) hx hb hwd inlX7 hown hK hP 1 rfl rfl 4 (by decide) (hwd _ kr14_15) (fun _ h9 => h9) rfl dX7_copyFrom_34 ?_
  refine va_put (D := (dC, dI)) (ci := 7) (v := .int i12) (ty := .int) (C := RX7) (T := TX7) (N := 8) hx hb hwd inlX7 tyX7 tyX7_ok nmX7 hown hK hP hD hS 0 rfl rfl 4 (by decide) (hwd _ kr14_15) (fun _ h9 => h9) rfl (by decide +kernel) rfl rfl (Nat.le_of_ble_eq_true rfl) dX7_copyFrom_37 (fun H locs hP hD hS => ?_)
  replace hP : va_P (dC, dI) vwCl [(a0, .inr (7, [.int i8, .int i9, .int i10, .int i11, .int i12, .int i5, .int i6, .int i7])), (a1, .inr (7, [.int i8, .int i9, .int i10, .int i11, .int i12, .int i13, .int i14, .int i15]))] H := hP
  replace hD : va_D A [(a0, .inr (7, [.int i8, .int i9, .int i10, .int i11, .int i12, .int i5, .int i6, .int i7])), (a1, .inr (7, [.int i8, .int i9, .int i10, .int i11, .int i12, .int i13, .int i14, .int i15]))] := hD
  refine lv_aload_n hx hb dX7_copyFrom_40 rfl (lv_at hl 0 rfl) ?_
  refine lv_aload_n hx hb dX7_copyFrom_41 rfl (lv_at hl 1 rfl) ?_
  refine va_get (D := (dC, dI)) (ci := 7) (v := .int i13) (C := RX7) (T := TX7) (N := 8) hx hb hwd inlX7 hown hK hP 1 rfl rfl 5 (by decide) (hwd _ kr14_17) (fun _ h9 => h9) rfl dX7_copyFrom_42 ?_
  refine va_put (D := (dC, dI)) (ci := 7) (v := .int i13) (ty := .int) (C := RX7) (T := TX7) (N := 8) hx hb hwd inlX7 tyX7 tyX7_ok nmX7 hown hK hP hD hS 0 rfl rfl 5 (by decide) (hwd _ kr14_17) (fun _ h9 => h9) rfl (by decide +kernel) rfl rfl (Nat.le_of_ble_eq_true rfl) dX7_copyFrom_45 (fun H locs hP hD hS => ?_)
  replace hP : va_P (dC, dI) vwCl [(a0, .inr (7, [.int i8, .int i9, .int i10, .int i11, .int i12, .int i13, .int i6, .int i7])), (a1, .inr (7, [.int i8, .int i9, .int i10, .int i11, .int i12, .int i13, .int i14, .int i15]))] H := hP
  replace hD : va_D A [(a0, .inr (7, [.int i8, .int i9, .int i10, .int i11, .int i12, .int i13, .int i6, .int i7])), (a1, .inr (7, [.int i8, .int i9, .int i10, .int i11, .int i12, .int i13, .int i14, .int i15]))] := hD
  refine lv_aload_n hx hb dX7_copyFrom_48 rfl (lv_at hl 0 rfl) ?_
  refine lv_aload_n hx hb dX7_copyFrom_49 rfl (lv_at hl 1 rfl) ?_
  refine va_get (D := (dC, dI)) (ci := 7) (v := .int i14) (C := RX7) (T := TX7) (N := 8) hx hb hwd inlX7 hown hK hP 1 rfl rfl 6 (by decide) (hwd _ kr14_19) (fun _ h9 => h9) rfl dX7_copyFrom_50 ?_
  refine va_put (D := (dC, dI)) (ci := 7) (v := .int i14) (ty := .int) (C := RX7) (T := TX7) (N := 8) hx hb hwd inlX7 tyX7 tyX7_ok nmX7 hown hK hP hD hS 0 rfl rfl 6 (by decide) (hwd _ kr14_19) (fun _ h9 => h9) rfl (by decide +kernel) rfl rfl (Nat.le_of_ble_eq_true rfl) dX7_copyFrom_53 (fun H locs hP hD hS => ?_)
  replace hP : va_P (dC, dI) vwCl [(a0, .inr (7, [.int i8, .int i9, .int i10, .int i11, .int i12, .int i13, .int i14, .int i7])), (a1, .inr (7, [.int i8, .int i9, .int i10, .int i11, .int i12, .int i13, .int i14, .int i15]))] H := hP
  replace hD : va_D A [(a0, .inr (7, [.int i8, .int i9, .int i10, .int i11, .int i12, .int i13, .int i14, .int i7])), (a1, .inr (7, [.int i8, .int i9, .int i10, .int i11, .int i12, .int i13, .int i14, .int i15]))] := hD
  refine lv_aload_n hx hb dX7_copyFrom_56 rfl (lv_at hl 0 rfl) ?_
  refine lv_aload_n hx hb dX7_copyFrom_57 rfl (lv_at hl 1 rfl) ?_
  refine va_get (D := (dC, dI)) (ci := 7) (v := .int i15) (C := RX7) (T := TX7) (N := 8) hx hb hwd inlX7 hown hK hP 1 rfl rfl 7 (by decide) (hwd _ kr14_21) (fun _ h9 => h9) rfl dX7_copyFrom_58 ?_
  refine va_put (D := (dC, dI)) (ci := 7) (v := .int i15) (ty := .int) (C := RX7) (T := TX7) (N := 8) hx hb hwd inlX7 tyX7 tyX7_ok nmX7 hown hK hP hD hS 0 rfl rfl 7 (by decide) (hwd _ kr14_21) (fun _ h9 => h9) rfl (by decide +kernel) rfl rfl (Nat.le_of_ble_eq_true rfl) dX7_copyFrom_61 (fun H locs hP hD hS => ?_)
  replace hP : va_P (dC, dI) vwCl [(a0, .inr (7, [.int i8, .int i9, .int i10, .int i11, .int i12, .int i13, .int i14, .int i15])), (a1, .inr (7, [.int i8, .int i9, .int i10, .int i11, .int i12, .int i13, .int i14, .int i15]))] H := hP
  replace hD : va_D A [(a0, .inr (7, [.int i8, .int i9, .int i10, .int i11, .int i12, .int i13, .int i14, .int i15])), (a1, .inr (7, [.int i8, .int i9, .int i10, .int i11, .int i12, .int i13, .int i14, .int i15]))] := hD
  have hP9 := hP.sub (ws' := [(a0, .inr (7, [.int i8, .int i9, .int i10, .int i11, .int i12, .int i13, .int i14, .int i15])), (a1, .inr (7, [.int i8, .int i9, .int i10, .int i11, .int i12, .int i13, .int i14, .int i15]))]) [0, 1] rfl
  have hD9 := hD.sub (ws' := [(a0, .inr (7, [.int i8, .int i9, .int i10, .int i11, .int i12, .int i13, .int i14, .int i15])), (a1, .inr (7, [.int i8, .int i9, .int i10, .int i11, .int i12, .int i13, .int i14, .int i15]))]) [0, 1] (by decide) rfl
  rw [hQ]
  exact W.vret hx hb hr (fun t ht hW => ⟨⟨(pickG 0 [i8, i9, i10, i11, i12, i13, i14, i15], pickG (fun _ => 0) [], pickG (fun _ => 0) []), rfl, trivial, (by rw [ht]; exact hP9), hD9⟩, hS.F ht⟩) hS.2.2 dX7_copyFrom_64
theorem dX7_slackFor_0 : decode cX7_slackFor 0 = .ok (.aload_n 0, 1) := by decide +kernel
theorem dX7_slackFor_1 : decode cX7_slackFor 1 = .ok (.getfield 33, 3) := by decide +kernel
theorem dX7_slackFor_4 : decode cX7_slackFor 4 = .ok (.iload_n 1, 1) := by decide +kernel
theorem dX7_slackFor_5 : decode cX7_slackFor 5 = .ok (.ineg, 1) := by decide +kernel
theorem dX7_slackFor_6 : decode cX7_slackFor 6 = .ok (.if_icmp .ne 7, 3) := by decide +kernel
theorem dX7_slackFor_9 : decode cX7_slackFor 9 = .ok (.iload_n 2, 1) := by decide +kernel
theorem dX7_slackFor_10 : decode cX7_slackFor 10 = .ok (.goto 7, 3) := by decide +kernel
theorem dX7_slackFor_13 : decode cX7_slackFor 13 = .ok (.aload_n 0, 1) := by decide +kernel
theorem dX7_slackFor_14 : decode cX7_slackFor 14 = .ok (.getfield 27, 3) := by decide +kernel
theorem dX7_slackFor_17 : decode cX7_slackFor 17 = .ok (.ireturn, 1) := by decide +kernel
set_option maxHeartbeats 4000000 in
set_option maxRecDepth 100000 in
theorem s_X7_slackFor (l : Launch) (dC : Nat → ClassId) (dI : Nat → Nat → Nat) (cI cZ cB cJ cM cG : ClassId) (a0 : Nat) (i0 i1 i2 i3 i4 i5 i6 i7 : Int32) (p0 p1 : Int32) (sz : Nat) : Met l yX7_slackFor (kw yX7_slackFor cX7_slackFor 3 (some .int)) ({ frames := 0, cells := 0, slots := 0, locals := 0 } : Room) (va_Pc [.ref a0, .int p0, .int p1] (kPre dC dI [(cI, .int), (cZ, .boolean), (cB, .byte), (cJ, .long), (cM, .object RX2), (cG, .array .int)] [(a0, .inr (7, [.int i0, .int i1, .int i2, .int i3, .int i4, .int i5, .int i6, .int i7]))] sz)) (va_Qi (fun (r : Int32) (u9 : Unit) => True) (fun u9 t => va_P (dC, dI) vwCl [(a0, .inr (7, [.int i0, .int i1, .int i2, .int i3, .int i4, .int i5, .int i6, .int i7]))] t.heap ∧ va_D (va_A [(a0, .inr (7, [.int i0, .int i1, .int i2, .int i3, .int i4, .int i5, .int i6, .int i7]))] sz) [(a0, .inr (7, [.int i0, .int i1, .int i2, .int i3, .int i4, .int i5, .int i6, .int i7]))]) (va_A [(a0, .inr (7, [.int i0, .int i1, .int i2, .int i3, .int i4, .int i5, .int i6, .int i7]))] sz)) 0 0 (va_A [(a0, .inr (7, [.int i0, .int i1, .int i2, .int i3, .int i4, .int i5, .int i6, .int i7]))] sz) := by
  refine kEnter (by decide) (Nat.le_of_ble_eq_true rfl) ?_
  intro p e s m below meth c ls hx hb hr hml hown hlocks hin hwd hsz hP hK hD hl
  subst hsz
  generalize hAe : va_A [(a0, .inr (7, [.int i0, .int i1, .int i2, .int i3, .int i4, .int i5, .int i6, .int i7]))] s.heap.size = A at hD ⊢
  have hA : ∀ q : Nat, s.heap.size ≤ q → A q := fun q h => by rw [← hAe]; exact Or.inr h
  have hS : va_S A s.heap s.heap [] := va_S.rf
  have hl : lv_has ls 3 [(0, .ref a0), (1, .int p0), (2, .int p1)] := hl
  obtain ⟨Q, hQ⟩ : ∃ Q, Q = MQ below (va_Qi (fun (r : Int32) (u9 : Unit) => True) (fun u9 t => va_P (dC, dI) vwCl [(a0, .inr (7, [.int i0, .int i1, .int i2, .int i3, .int i4, .int i5, .int i6, .int i7]))] t.heap ∧ va_D A [(a0, .inr (7, [.int i0, .int i1, .int i2, .int i3, .int i4, .int i5, .int i6, .int i7]))]) A) ([.ref a0, .int p0, .int p1] : List Value).toArray s 0 0 A := ⟨_, rfl⟩
  rw [← hQ]
  refine lv_aload_n hx hb dX7_slackFor_0 rfl (lv_at hl 0 rfl) ?_
  refine va_get (D := (dC, dI)) (ci := 7) (v := .int i7) (C := RX7) (T := TX7) (N := 8) hx hb hwd inlX7 hown hK hP 0 rfl rfl 7 (by decide) (hwd _ kr14_21) (fun _ h9 => h9) rfl dX7_slackFor_1 ?_
  refine lv_iload_n hx hb dX7_slackFor_4 rfl (lv_at hl 1 rfl) ?_
  refine lv_ineg hx hb dX7_slackFor_5 ?_
  refine lv_topi (fun x1 ex1 => ?_)
  refine lv_icmp_ne (tgt := 13) hx hb dX7_slackFor_6 (by decide) (fun c2 => ?_) (fun c2 => ?_)
  · rw [ki_eq] at c2
    refine lv_aload_n hx hb dX7_slackFor_13 rfl (lv_at hl 0 rfl) ?_
    refine va_get (D := (dC, dI)) (ci := 7) (v := .int i4) (C := RX7) (T := TX7) (N := 8) hx hb hwd inlX7 hown hK hP 0 rfl rfl 4 (by decide) (hwd _ kr14_15) (fun _ h9 => h9) rfl dX7_slackFor_14 ?_
    have hP9 := hP.sub (ws' := [(a0, .inr (7, [.int i0, .int i1, .int i2, .int i3, .int i4, .int i5, .int i6, .int i7]))]) [0] rfl
    have hD9 := hD.sub (ws' := [(a0, .inr (7, [.int i0, .int i1, .int i2, .int i3, .int i4, .int i5, .int i6, .int i7]))]) [0] (by decide) rfl
    rw [hQ]
    exact W.iret (v := i4) hx hb hr (fun t ht hW => ⟨⟨i4, (), rfl, trivial, (by rw [ht]; exact hP9), hD9⟩, hS.F ht⟩) hS.2.2 dX7_slackFor_17
  · rw [ki_eq] at c2
    refine lv_iload_n hx hb dX7_slackFor_9 rfl (lv_at hl 2 rfl) ?_
    refine lv_goto (tgt := 17) hx hb dX7_slackFor_10 (by decide) ?_
    have hP9 := hP.sub (ws' := [(a0, .inr (7, [.int i0, .int i1, .int i2, .int i3, .int i4, .int i5, .int i6, .int i7]))]) [0] rfl
    have hD9 := hD.sub (ws' := [(a0, .inr (7, [.int i0, .int i1, .int i2, .int i3, .int i4, .int i5, .int i6, .int i7]))]) [0] (by decide) rfl
    rw [hQ]
    exact W.iret (v := p1) hx hb hr (fun t ht hW => ⟨⟨p1, (), rfl, trivial, (by rw [ht]; exact hP9), hD9⟩, hS.F ht⟩) hS.2.2 dX7_slackFor_17
theorem dX7_take_0 : decode cX7_take 0 = .ok (.aload_n 0, 1) := by decide +kernel
theorem dX7_take_1 : decode cX7_take 1 = .ok (.iload_n 1, 1) := by decide +kernel
theorem dX7_take_2 : decode cX7_take 2 = .ok (.putfield 33, 3) := by decide +kernel
theorem dX7_take_5 : decode cX7_take 5 = .ok (.aload_n 0, 1) := by decide +kernel
theorem dX7_take_6 : decode cX7_take 6 = .ok (.iload_n 2, 1) := by decide +kernel
theorem dX7_take_7 : decode cX7_take 7 = .ok (.putfield 27, 3) := by decide +kernel
theorem dX7_take_10 : decode cX7_take 10 = .ok (.aload_n 0, 1) := by decide +kernel
theorem dX7_take_11 : decode cX7_take 11 = .ok (.dup, 1) := by decide +kernel
theorem dX7_take_12 : decode cX7_take 12 = .ok (.getfield 18, 3) := by decide +kernel
theorem dX7_take_15 : decode cX7_take 15 = .ok (.iconst 1, 1) := by decide +kernel
theorem dX7_take_16 : decode cX7_take 16 = .ok (.iadd, 1) := by decide +kernel
theorem dX7_take_17 : decode cX7_take 17 = .ok (.putfield 18, 3) := by decide +kernel
theorem dX7_take_20 : decode cX7_take 20 = .ok (.return_, 1) := by decide +kernel
set_option maxHeartbeats 4000000 in
set_option maxRecDepth 100000 in
theorem s_X7_take (l : Launch) (dC : Nat → ClassId) (dI : Nat → Nat → Nat) (cI cZ cB cJ cM cG : ClassId) (a0 : Nat) (i0 i1 i2 i3 i4 i5 i6 i7 : Int32) (p0 p1 : Int32) (sz : Nat) : Met l yX7_take (kw yX7_take cX7_take 3 none) ({ frames := 0, cells := 0, slots := 0, locals := 0 } : Room) (va_Pc [.ref a0, .int p0, .int p1] (kPre dC dI [(cI, .int), (cZ, .boolean), (cB, .byte), (cJ, .long), (cM, .object RX2), (cG, .array .int)] [(a0, .inr (7, [.int i0, .int i1, .int i2, .int i3, .int i4, .int i5, .int i6, .int i7]))] sz)) (va_Qv (fun (u9 : (Nat → Int32) × (Nat → Nat → Int32) × (Nat → Nat → Int64)) => True) (fun u9 t => va_P (dC, dI) vwCl [(a0, .inr (7, [.int i0, .int (u9.1 0), .int i2, .int i3, .int (u9.1 1), .int i5, .int i6, .int (u9.1 2)]))] t.heap ∧ va_D (va_A [(a0, .inr (7, [.int i0, .int i1, .int i2, .int i3, .int i4, .int i5, .int i6, .int i7]))] sz) [(a0, .inr (7, [.int i0, .int (u9.1 0), .int i2, .int i3, .int (u9.1 1), .int i5, .int i6, .int (u9.1 2)]))]) (va_A [(a0, .inr (7, [.int i0, .int i1, .int i2, .int i3, .int i4, .int i5, .int i6, .int i7]))] sz)) 0 0 (va_A [(a0, .inr (7, [.int i0, .int i1, .int i2, .int i3, .int i4, .int i5, .int i6, .int i7]))] sz) := by
  refine kEnter (by decide) (Nat.le_of_ble_eq_true rfl) ?_
  intro p e s m below meth c ls hx hb hr hml hown hlocks hin hwd hsz hP hK hD hl
  subst hsz
  generalize hAe : va_A [(a0, .inr (7, [.int i0, .int i1, .int i2, .int i3, .int i4, .int i5, .int i6, .int i7]))] s.heap.size = A at hD ⊢
  have hA : ∀ q : Nat, s.heap.size ≤ q → A q := fun q h => by rw [← hAe]; exact Or.inr h
  have hS : va_S A s.heap s.heap [] := va_S.rf
  have hl : lv_has ls 3 [(0, .ref a0), (1, .int p0), (2, .int p1)] := hl
  obtain ⟨Q, hQ⟩ : ∃ Q, Q = MQ below (va_Qv (fun (u9 : (Nat → Int32) × (Nat → Nat → Int32) × (Nat → Nat → Int64)) => True) (fun u9 t => va_P (dC, dI) vwCl [(a0, .inr (7, [.int i0, .int (u9.1 0), .int i2, .int i3, .int (u9.1 1), .int i5, .int i6, .int (u9.1 2)]))] t.heap ∧ va_D A [(a0, .inr (7, [.int i0, .int (u9.1 0), .int i2, .int i3, .int (u9.1 1), .int i5, .int i6, .int (u9.1 2)]))]) A) ([.ref a0, .int p0, .int p1] : List Value).toArray s 0 0 A := ⟨_, rfl⟩
  rw [← hQ]
  refine lv_aload_n hx hb dX7_take_0 rfl (lv_at hl 0 rfl) ?_
  refine lv_iload_n hx hb dX7_take_1 rfl (lv_at hl 1 rfl) ?_
  refine va_put (D := (dC, dI)) (ci := 7) (v := .int p0) (ty := .int) (C := RX7) (T := TX7) (N := 8) hx hb hwd inlX7 tyX7 tyX7_ok nmX7 hown hK hP hD hS 0 rfl rfl 7 (by decide) (hwd _ kr14_21) (fun _ h9 => h9) rfl (by decide +kernel) rfl rfl (Nat.le_of_ble_eq_true rfl) dX7_take_2 (fun H locs hP hD hS => ?_)
  replace hP : va_P (dC, dI) vwCl [(a0, .inr (7, [.int i0, .int i1, .int i2, .int i3, .int i4, .int i5, .int i6, .int p0]))] H := hP
  replace hD : va_D A [(a0, .inr (7, [.int i0, .int i1, .int i2, .int i3, .int i4, .int i5, .int i6, .int p0]))] := hD
  refine lv_aload_n hx hb dX7_take_5 rfl (lv_at hl 0 rfl) ?_
  refine lv_iload_n hx hb dX7_take_6 rfl (lv_at hl 2 rfl) ?_
  refine va_put (D := (dC, dI)) (ci := 7) (v := .int p1) (ty := .int) (C := RX7) (T := TX7) (N := 8) hx hb hwd inlX7 tyX7 tyX7_ok nmX7 hown hK hP hD hS 0 rfl rfl 4 (by decide) (hwd _ kr14_15) (fun _ h9 => h9) rfl (by decide +kernel) rfl rfl (Nat.le_of_ble_eq_true rfl) dX7_take_7 (fun H locs hP hD hS => ?_)
  replace hP : va_P (dC, dI) vwCl [(a0, .inr (7, [.int i0, .int i1, .int i2, .int i3, .int p1, .int i5, .int i6, .int p0]))] H := hP
  replace hD : va_D A [(a0, .inr (7, [.int i0, .int i1, .int i2, .int i3, .int p1, .int i5, .int i6, .int p0]))] := hD
  refine lv_aload_n hx hb dX7_take_10 rfl (lv_at hl 0 rfl) ?_
  refine lv_dup hx hb dX7_take_11 rfl ?_
  refine va_get (D := (dC, dI)) (ci := 7) (v := .int i1) (C := RX7) (T := TX7) (N := 8) hx hb hwd inlX7 hown hK hP 0 rfl rfl 1 (by decide) (hwd _ kr14_7) (fun _ h9 => h9) rfl dX7_take_12 ?_
  refine lv_iconst (v := 1) hx hb dX7_take_15 (by decide) ?_
  refine lv_iadd hx hb dX7_take_16 ?_
  refine lv_topi (fun x1 ex1 => ?_)
  refine va_put (D := (dC, dI)) (ci := 7) (v := .int x1) (ty := .int) (C := RX7) (T := TX7) (N := 8) hx hb hwd inlX7 tyX7 tyX7_ok nmX7 hown hK hP hD hS 0 rfl rfl 1 (by decide) (hwd _ kr14_7) (fun _ h9 => h9) rfl (by decide +kernel) rfl rfl (Nat.le_of_ble_eq_true rfl) dX7_take_17 (fun H locs hP hD hS => ?_)
  replace hP : va_P (dC, dI) vwCl [(a0, .inr (7, [.int i0, .int x1, .int i2, .int i3, .int p1, .int i5, .int i6, .int p0]))] H := hP
  replace hD : va_D A [(a0, .inr (7, [.int i0, .int x1, .int i2, .int i3, .int p1, .int i5, .int i6, .int p0]))] := hD
  have hP9 := hP.sub (ws' := [(a0, .inr (7, [.int i0, .int x1, .int i2, .int i3, .int p1, .int i5, .int i6, .int p0]))]) [0] rfl
  have hD9 := hD.sub (ws' := [(a0, .inr (7, [.int i0, .int x1, .int i2, .int i3, .int p1, .int i5, .int i6, .int p0]))]) [0] (by decide) rfl
  rw [hQ]
  exact W.vret hx hb hr (fun t ht hW => ⟨⟨(pickG 0 [x1, p1, p0], pickG (fun _ => 0) [], pickG (fun _ => 0) []), rfl, trivial, (by rw [ht]; exact hP9), hD9⟩, hS.F ht⟩) hS.2.2 dX7_take_20
theorem dX7_turnOn_0 : decode cX7_turnOn 0 = .ok (.aload_n 0, 1) := by decide +kernel
theorem dX7_turnOn_1 : decode cX7_turnOn 1 = .ok (.dup, 1) := by decide +kernel
theorem dX7_turnOn_2 : decode cX7_turnOn 2 = .ok (.getfield 15, 3) := by decide +kernel
theorem dX7_turnOn_5 : decode cX7_turnOn 5 = .ok (.iload_n 1, 1) := by decide +kernel
theorem dX7_turnOn_6 : decode cX7_turnOn 6 = .ok (.iadd, 1) := by decide +kernel
theorem dX7_turnOn_7 : decode cX7_turnOn 7 = .ok (.putfield 15, 3) := by decide +kernel
theorem dX7_turnOn_10 : decode cX7_turnOn 10 = .ok (.aload_n 0, 1) := by decide +kernel
theorem dX7_turnOn_11 : decode cX7_turnOn 11 = .ok (.dup, 1) := by decide +kernel
theorem dX7_turnOn_12 : decode cX7_turnOn 12 = .ok (.getfield 21, 3) := by decide +kernel
theorem dX7_turnOn_15 : decode cX7_turnOn 15 = .ok (.iconst 1, 1) := by decide +kernel
theorem dX7_turnOn_16 : decode cX7_turnOn 16 = .ok (.iadd, 1) := by decide +kernel
theorem dX7_turnOn_17 : decode cX7_turnOn 17 = .ok (.putfield 21, 3) := by decide +kernel
theorem dX7_turnOn_20 : decode cX7_turnOn 20 = .ok (.return_, 1) := by decide +kernel
set_option maxHeartbeats 4000000 in
set_option maxRecDepth 100000 in
theorem s_X7_turnOn (l : Launch) (dC : Nat → ClassId) (dI : Nat → Nat → Nat) (cI cZ cB cJ cM cG : ClassId) (a0 : Nat) (i0 i1 i2 i3 i4 i5 i6 i7 : Int32) (p0 : Int32) (sz : Nat) : Met l yX7_turnOn (kw yX7_turnOn cX7_turnOn 2 none) ({ frames := 0, cells := 0, slots := 0, locals := 0 } : Room) (va_Pc [.ref a0, .int p0] (kPre dC dI [(cI, .int), (cZ, .boolean), (cB, .byte), (cJ, .long), (cM, .object RX2), (cG, .array .int)] [(a0, .inr (7, [.int i0, .int i1, .int i2, .int i3, .int i4, .int i5, .int i6, .int i7]))] sz)) (va_Qv (fun (u9 : (Nat → Int32) × (Nat → Nat → Int32) × (Nat → Nat → Int64)) => True) (fun u9 t => va_P (dC, dI) vwCl [(a0, .inr (7, [.int (u9.1 0), .int i1, .int (u9.1 1), .int i3, .int i4, .int i5, .int i6, .int i7]))] t.heap ∧ va_D (va_A [(a0, .inr (7, [.int i0, .int i1, .int i2, .int i3, .int i4, .int i5, .int i6, .int i7]))] sz) [(a0, .inr (7, [.int (u9.1 0), .int i1, .int (u9.1 1), .int i3, .int i4, .int i5, .int i6, .int i7]))]) (va_A [(a0, .inr (7, [.int i0, .int i1, .int i2, .int i3, .int i4, .int i5, .int i6, .int i7]))] sz)) 0 0 (va_A [(a0, .inr (7, [.int i0, .int i1, .int i2, .int i3, .int i4, .int i5, .int i6, .int i7]))] sz) := by
  refine kEnter (by decide) (Nat.le_of_ble_eq_true rfl) ?_
  intro p e s m below meth c ls hx hb hr hml hown hlocks hin hwd hsz hP hK hD hl
  subst hsz
  generalize hAe : va_A [(a0, .inr (7, [.int i0, .int i1, .int i2, .int i3, .int i4, .int i5, .int i6, .int i7]))] s.heap.size = A at hD ⊢
  have hA : ∀ q : Nat, s.heap.size ≤ q → A q := fun q h => by rw [← hAe]; exact Or.inr h
  have hS : va_S A s.heap s.heap [] := va_S.rf
  have hl : lv_has ls 2 [(0, .ref a0), (1, .int p0)] := hl
  obtain ⟨Q, hQ⟩ : ∃ Q, Q = MQ below (va_Qv (fun (u9 : (Nat → Int32) × (Nat → Nat → Int32) × (Nat → Nat → Int64)) => True) (fun u9 t => va_P (dC, dI) vwCl [(a0, .inr (7, [.int (u9.1 0), .int i1, .int (u9.1 1), .int i3, .int i4, .int i5, .int i6, .int i7]))] t.heap ∧ va_D A [(a0, .inr (7, [.int (u9.1 0), .int i1, .int (u9.1 1), .int i3, .int i4, .int i5, .int i6, .int i7]))]) A) ([.ref a0, .int p0] : List Value).toArray s 0 0 A := ⟨_, rfl⟩
  rw [← hQ]
  refine lv_aload_n hx hb dX7_turnOn_0 rfl (lv_at hl 0 rfl) ?_
  refine lv_dup hx hb dX7_turnOn_1 rfl ?_
  refine va_get (D := (dC, dI)) (ci := 7) (v := .int i0) (C := RX7) (T := TX7) (N := 8) hx hb hwd inlX7 hown hK hP 0 rfl rfl 0 (by decide) (hwd _ kr14_4) (fun _ h9 => h9) rfl dX7_turnOn_2 ?_
  refine lv_iload_n hx hb dX7_turnOn_5 rfl (lv_at hl 1 rfl) ?_
  refine lv_iadd hx hb dX7_turnOn_6 ?_
  refine lv_topi (fun x1 ex1 => ?_)
  refine va_put (D := (dC, dI)) (ci := 7) (v := .int x1) (ty := .int) (C := RX7) (T := TX7) (N := 8) hx hb hwd inlX7 tyX7 tyX7_ok nmX7 hown hK hP hD hS 0 rfl rfl 0 (by decide) (hwd _ kr14_4) (fun _ h9 => h9) rfl (by decide +kernel) rfl rfl (Nat.le_of_ble_eq_true rfl) dX7_turnOn_7 (fun H locs hP hD hS => ?_)
  replace hP : va_P (dC, dI) vwCl [(a0, .inr (7, [.int x1, .int i1, .int i2, .int i3, .int i4, .int i5, .int i6, .int i7]))] H := hP
  replace hD : va_D A [(a0, .inr (7, [.int x1, .int i1, .int i2, .int i3, .int i4, .int i5, .int i6, .int i7]))] := hD
  refine lv_aload_n hx hb dX7_turnOn_10 rfl (lv_at hl 0 rfl) ?_
  refine lv_dup hx hb dX7_turnOn_11 rfl ?_
  refine va_get (D := (dC, dI)) (ci := 7) (v := .int i2) (C := RX7) (T := TX7) (N := 8) hx hb hwd inlX7 hown hK hP 0 rfl rfl 2 (by decide) (hwd _ kr14_9) (fun _ h9 => h9) rfl dX7_turnOn_12 ?_
  refine lv_iconst (v := 1) hx hb dX7_turnOn_15 (by decide) ?_
  refine lv_iadd hx hb dX7_turnOn_16 ?_
  refine lv_topi (fun x2 ex2 => ?_)
  refine va_put (D := (dC, dI)) (ci := 7) (v := .int x2) (ty := .int) (C := RX7) (T := TX7) (N := 8) hx hb hwd inlX7 tyX7 tyX7_ok nmX7 hown hK hP hD hS 0 rfl rfl 2 (by decide) (hwd _ kr14_9) (fun _ h9 => h9) rfl (by decide +kernel) rfl rfl (Nat.le_of_ble_eq_true rfl) dX7_turnOn_17 (fun H locs hP hD hS => ?_)
  replace hP : va_P (dC, dI) vwCl [(a0, .inr (7, [.int x1, .int i1, .int x2, .int i3, .int i4, .int i5, .int i6, .int i7]))] H := hP
  replace hD : va_D A [(a0, .inr (7, [.int x1, .int i1, .int x2, .int i3, .int i4, .int i5, .int i6, .int i7]))] := hD
  have hP9 := hP.sub (ws' := [(a0, .inr (7, [.int x1, .int i1, .int x2, .int i3, .int i4, .int i5, .int i6, .int i7]))]) [0] rfl
  have hD9 := hD.sub (ws' := [(a0, .inr (7, [.int x1, .int i1, .int x2, .int i3, .int i4, .int i5, .int i6, .int i7]))]) [0] (by decide) rfl
  rw [hQ]
  exact W.vret hx hb hr (fun t ht hW => ⟨⟨(pickG 0 [x1, x2], pickG (fun _ => 0) [], pickG (fun _ => 0) []), rfl, trivial, (by rw [ht]; exact hP9), hD9⟩, hS.F ht⟩) hS.2.2 dX7_turnOn_20
theorem dX7_jamBy_0 : decode cX7_jamBy 0 = .ok (.aload_n 0, 1) := by decide +kernel
theorem dX7_jamBy_1 : decode cX7_jamBy 1 = .ok (.dup, 1) := by decide +kernel
theorem dX7_jamBy_2 : decode cX7_jamBy 2 = .ok (.getfield 30, 3) := by decide +kernel
theorem dX7_jamBy_5 : decode cX7_jamBy 5 = .ok (.iconst 1, 1) := by decide +kernel
theorem dX7_jamBy_6 : decode cX7_jamBy 6 = .ok (.iadd, 1) := by decide +kernel
theorem dX7_jamBy_7 : decode cX7_jamBy 7 = .ok (.putfield 30, 3) := by decide +kernel
theorem dX7_jamBy_10 : decode cX7_jamBy 10 = .ok (.aload_n 0, 1) := by decide +kernel
theorem dX7_jamBy_11 : decode cX7_jamBy 11 = .ok (.iload_n 1, 1) := by decide +kernel
theorem dX7_jamBy_12 : decode cX7_jamBy 12 = .ok (.putfield 9, 3) := by decide +kernel
theorem dX7_jamBy_15 : decode cX7_jamBy 15 = .ok (.return_, 1) := by decide +kernel
set_option maxHeartbeats 4000000 in
set_option maxRecDepth 100000 in
theorem s_X7_jamBy (l : Launch) (dC : Nat → ClassId) (dI : Nat → Nat → Nat) (cI cZ cB cJ cM cG : ClassId) (a0 : Nat) (i0 i1 i2 i3 i4 i5 i6 i7 : Int32) (p0 : Int32) (sz : Nat) : Met l yX7_jamBy (kw yX7_jamBy cX7_jamBy 2 none) ({ frames := 0, cells := 0, slots := 0, locals := 0 } : Room) (va_Pc [.ref a0, .int p0] (kPre dC dI [(cI, .int), (cZ, .boolean), (cB, .byte), (cJ, .long), (cM, .object RX2), (cG, .array .int)] [(a0, .inr (7, [.int i0, .int i1, .int i2, .int i3, .int i4, .int i5, .int i6, .int i7]))] sz)) (va_Qv (fun (u9 : (Nat → Int32) × (Nat → Nat → Int32) × (Nat → Nat → Int64)) => True) (fun u9 t => va_P (dC, dI) vwCl [(a0, .inr (7, [.int i0, .int i1, .int i2, .int i3, .int i4, .int (u9.1 0), .int (u9.1 1), .int i7]))] t.heap ∧ va_D (va_A [(a0, .inr (7, [.int i0, .int i1, .int i2, .int i3, .int i4, .int i5, .int i6, .int i7]))] sz) [(a0, .inr (7, [.int i0, .int i1, .int i2, .int i3, .int i4, .int (u9.1 0), .int (u9.1 1), .int i7]))]) (va_A [(a0, .inr (7, [.int i0, .int i1, .int i2, .int i3, .int i4, .int i5, .int i6, .int i7]))] sz)) 0 0 (va_A [(a0, .inr (7, [.int i0, .int i1, .int i2, .int i3, .int i4, .int i5, .int i6, .int i7]))] sz) := by
  refine kEnter (by decide) (Nat.le_of_ble_eq_true rfl) ?_
  intro p e s m below meth c ls hx hb hr hml hown hlocks hin hwd hsz hP hK hD hl
  subst hsz
  generalize hAe : va_A [(a0, .inr (7, [.int i0, .int i1, .int i2, .int i3, .int i4, .int i5, .int i6, .int i7]))] s.heap.size = A at hD ⊢
  have hA : ∀ q : Nat, s.heap.size ≤ q → A q := fun q h => by rw [← hAe]; exact Or.inr h
  have hS : va_S A s.heap s.heap [] := va_S.rf
  have hl : lv_has ls 2 [(0, .ref a0), (1, .int p0)] := hl
  obtain ⟨Q, hQ⟩ : ∃ Q, Q = MQ below (va_Qv (fun (u9 : (Nat → Int32) × (Nat → Nat → Int32) × (Nat → Nat → Int64)) => True) (fun u9 t => va_P (dC, dI) vwCl [(a0, .inr (7, [.int i0, .int i1, .int i2, .int i3, .int i4, .int (u9.1 0), .int (u9.1 1), .int i7]))] t.heap ∧ va_D A [(a0, .inr (7, [.int i0, .int i1, .int i2, .int i3, .int i4, .int (u9.1 0), .int (u9.1 1), .int i7]))]) A) ([.ref a0, .int p0] : List Value).toArray s 0 0 A := ⟨_, rfl⟩
  rw [← hQ]
  refine lv_aload_n hx hb dX7_jamBy_0 rfl (lv_at hl 0 rfl) ?_
  refine lv_dup hx hb dX7_jamBy_1 rfl ?_
  refine va_get (D := (dC, dI)) (ci := 7) (v := .int i5) (C := RX7) (T := TX7) (N := 8) hx hb hwd inlX7 hown hK hP 0 rfl rfl 5 (by decide) (hwd _ kr14_17) (fun _ h9 => h9) rfl dX7_jamBy_2 ?_
  refine lv_iconst (v := 1) hx hb dX7_jamBy_5 (by decide) ?_
  refine lv_iadd hx hb dX7_jamBy_6 ?_
  refine lv_topi (fun x1 ex1 => ?_)
  refine va_put (D := (dC, dI)) (ci := 7) (v := .int x1) (ty := .int) (C := RX7) (T := TX7) (N := 8) hx hb hwd inlX7 tyX7 tyX7_ok nmX7 hown hK hP hD hS 0 rfl rfl 5 (by decide) (hwd _ kr14_17) (fun _ h9 => h9) rfl (by decide +kernel) rfl rfl (Nat.le_of_ble_eq_true rfl) dX7_jamBy_7 (fun H locs hP hD hS => ?_)
  replace hP : va_P (dC, dI) vwCl [(a0, .inr (7, [.int i0, .int i1, .int i2, .int i3, .int i4, .int x1, .int i6, .int i7]))] H := hP
  replace hD : va_D A [(a0, .inr (7, [.int i0, .int i1, .int i2, .int i3, .int i4, .int x1, .int i6, .int i7]))] := hD
  refine lv_aload_n hx hb dX7_jamBy_10 rfl (lv_at hl 0 rfl) ?_
  refine lv_iload_n hx hb dX7_jamBy_11 rfl (lv_at hl 1 rfl) ?_
  refine va_put (D := (dC, dI)) (ci := 7) (v := .int p0) (ty := .int) (C := RX7) (T := TX7) (N := 8) hx hb hwd inlX7 tyX7 tyX7_ok nmX7 hown hK hP hD hS 0 rfl rfl 6 (by decide) (hwd _ kr14_19) (fun _ h9 => h9) rfl (by decide +kernel) rfl rfl (Nat.le_of_ble_eq_true rfl) dX7_jamBy_12 (fun H locs hP hD hS => ?_)
  replace hP : va_P (dC, dI) vwCl [(a0, .inr (7, [.int i0, .int i1, .int i2, .int i3, .int i4, .int x1, .int p0, .int i7]))] H := hP
  replace hD : va_D A [(a0, .inr (7, [.int i0, .int i1, .int i2, .int i3, .int i4, .int x1, .int p0, .int i7]))] := hD
  have hP9 := hP.sub (ws' := [(a0, .inr (7, [.int i0, .int i1, .int i2, .int i3, .int i4, .int x1, .int p0, .int i7]))]) [0] rfl
  have hD9 := hD.sub (ws' := [(a0, .inr (7, [.int i0, .int i1, .int i2, .int i3, .int i4, .int x1, .int p0, .int i7]))]) [0] (by decide) rfl
  rw [hQ]
  exact W.vret hx hb hr (fun t ht hW => ⟨⟨(pickG 0 [x1, p0], pickG (fun _ => 0) [], pickG (fun _ => 0) []), rfl, trivial, (by rw [ht]; exact hP9), hD9⟩, hS.F ht⟩) hS.2.2 dX7_jamBy_15
theorem dX3_copyFrom_0 : decode cX3_copyFrom 0 = .ok (.aload_n 0, 1) := by decide +kernel
theorem dX3_copyFrom_1 : decode cX3_copyFrom 1 = .ok (.aload_n 1, 1) := by decide +kernel
theorem dX3_copyFrom_2 : decode cX3_copyFrom 2 = .ok (.getfield 34, 3) := by decide +kernel
theorem dX3_copyFrom_5 : decode cX3_copyFrom 5 = .ok (.putfield 34, 3) := by decide +kernel
theorem dX3_copyFrom_8 : decode cX3_copyFrom 8 = .ok (.aload_n 1, 1) := by decide +kernel
theorem dX3_copyFrom_9 : decode cX3_copyFrom 9 = .ok (.getfield 9, 3) := by decide +kernel
theorem dX3_copyFrom_12 : decode cX3_copyFrom 12 = .ok (.iconst 0, 1) := by decide +kernel
theorem dX3_copyFrom_13 : decode cX3_copyFrom 13 = .ok (.aload_n 0, 1) := by decide +kernel
theorem dX3_copyFrom_14 : decode cX3_copyFrom 14 = .ok (.getfield 9, 3) := by decide +kernel
theorem dX3_copyFrom_17 : decode cX3_copyFrom 17 = .ok (.iconst 0, 1) := by decide +kernel
theorem dX3_copyFrom_18 : decode cX3_copyFrom 18 = .ok (.bipush 24, 2) := by decide +kernel
theorem dX3_copyFrom_20 : decode cX3_copyFrom 20 = .ok (.invokestatic 61, 3) := by decide +kernel
theorem dX3_copyFrom_23 : decode cX3_copyFrom 23 = .ok (.aload_n 1, 1) := by decide +kernel
theorem dX3_copyFrom_24 : decode cX3_copyFrom 24 = .ok (.getfield 15, 3) := by decide +kernel
theorem dX3_copyFrom_27 : decode cX3_copyFrom 27 = .ok (.iconst 0, 1) := by decide +kernel
theorem dX3_copyFrom_28 : decode cX3_copyFrom 28 = .ok (.aload_n 0, 1) := by decide +kernel
theorem dX3_copyFrom_29 : decode cX3_copyFrom 29 = .ok (.getfield 15, 3) := by decide +kernel
theorem dX3_copyFrom_32 : decode cX3_copyFrom 32 = .ok (.iconst 0, 1) := by decide +kernel
theorem dX3_copyFrom_33 : decode cX3_copyFrom 33 = .ok (.bipush 24, 2) := by decide +kernel
theorem dX3_copyFrom_35 : decode cX3_copyFrom 35 = .ok (.invokestatic 61, 3) := by decide +kernel
theorem dX3_copyFrom_38 : decode cX3_copyFrom 38 = .ok (.aload_n 1, 1) := by decide +kernel
theorem dX3_copyFrom_39 : decode cX3_copyFrom 39 = .ok (.getfield 18, 3) := by decide +kernel
theorem dX3_copyFrom_42 : decode cX3_copyFrom 42 = .ok (.iconst 0, 1) := by decide +kernel
theorem dX3_copyFrom_43 : decode cX3_copyFrom 43 = .ok (.aload_n 0, 1) := by decide +kernel
theorem dX3_copyFrom_44 : decode cX3_copyFrom 44 = .ok (.getfield 18, 3) := by decide +kernel
theorem dX3_copyFrom_47 : decode cX3_copyFrom 47 = .ok (.iconst 0, 1) := by decide +kernel
theorem dX3_copyFrom_48 : decode cX3_copyFrom 48 = .ok (.bipush 24, 2) := by decide +kernel
theorem dX3_copyFrom_50 : decode cX3_copyFrom 50 = .ok (.invokestatic 61, 3) := by decide +kernel
theorem dX3_copyFrom_53 : decode cX3_copyFrom 53 = .ok (.aload_n 1, 1) := by decide +kernel
theorem dX3_copyFrom_54 : decode cX3_copyFrom 54 = .ok (.getfield 21, 3) := by decide +kernel
theorem dX3_copyFrom_57 : decode cX3_copyFrom 57 = .ok (.iconst 0, 1) := by decide +kernel
theorem dX3_copyFrom_58 : decode cX3_copyFrom 58 = .ok (.aload_n 0, 1) := by decide +kernel
theorem dX3_copyFrom_59 : decode cX3_copyFrom 59 = .ok (.getfield 21, 3) := by decide +kernel
theorem dX3_copyFrom_62 : decode cX3_copyFrom 62 = .ok (.iconst 0, 1) := by decide +kernel
theorem dX3_copyFrom_63 : decode cX3_copyFrom 63 = .ok (.bipush 24, 2) := by decide +kernel
theorem dX3_copyFrom_65 : decode cX3_copyFrom 65 = .ok (.invokestatic 61, 3) := by decide +kernel
theorem dX3_copyFrom_68 : decode cX3_copyFrom 68 = .ok (.aload_n 1, 1) := by decide +kernel
theorem dX3_copyFrom_69 : decode cX3_copyFrom 69 = .ok (.getfield 24, 3) := by decide +kernel
theorem dX3_copyFrom_72 : decode cX3_copyFrom 72 = .ok (.iconst 0, 1) := by decide +kernel
theorem dX3_copyFrom_73 : decode cX3_copyFrom 73 = .ok (.aload_n 0, 1) := by decide +kernel
theorem dX3_copyFrom_74 : decode cX3_copyFrom 74 = .ok (.getfield 24, 3) := by decide +kernel
theorem dX3_copyFrom_77 : decode cX3_copyFrom 77 = .ok (.iconst 0, 1) := by decide +kernel
theorem dX3_copyFrom_78 : decode cX3_copyFrom 78 = .ok (.bipush 24, 2) := by decide +kernel
theorem dX3_copyFrom_80 : decode cX3_copyFrom 80 = .ok (.invokestatic 61, 3) := by decide +kernel
theorem dX3_copyFrom_83 : decode cX3_copyFrom 83 = .ok (.aload_n 1, 1) := by decide +kernel
theorem dX3_copyFrom_84 : decode cX3_copyFrom 84 = .ok (.getfield 27, 3) := by decide +kernel
theorem dX3_copyFrom_87 : decode cX3_copyFrom 87 = .ok (.iconst 0, 1) := by decide +kernel
theorem dX3_copyFrom_88 : decode cX3_copyFrom 88 = .ok (.aload_n 0, 1) := by decide +kernel
theorem dX3_copyFrom_89 : decode cX3_copyFrom 89 = .ok (.getfield 27, 3) := by decide +kernel
theorem dX3_copyFrom_92 : decode cX3_copyFrom 92 = .ok (.iconst 0, 1) := by decide +kernel
theorem dX3_copyFrom_93 : decode cX3_copyFrom 93 = .ok (.bipush 24, 2) := by decide +kernel
theorem dX3_copyFrom_95 : decode cX3_copyFrom 95 = .ok (.invokestatic 61, 3) := by decide +kernel
theorem dX3_copyFrom_98 : decode cX3_copyFrom 98 = .ok (.aload_n 1, 1) := by decide +kernel
theorem dX3_copyFrom_99 : decode cX3_copyFrom 99 = .ok (.getfield 30, 3) := by decide +kernel
theorem dX3_copyFrom_102 : decode cX3_copyFrom 102 = .ok (.iconst 0, 1) := by decide +kernel
theorem dX3_copyFrom_103 : decode cX3_copyFrom 103 = .ok (.aload_n 0, 1) := by decide +kernel
theorem dX3_copyFrom_104 : decode cX3_copyFrom 104 = .ok (.getfield 30, 3) := by decide +kernel
theorem dX3_copyFrom_107 : decode cX3_copyFrom 107 = .ok (.iconst 0, 1) := by decide +kernel
theorem dX3_copyFrom_108 : decode cX3_copyFrom 108 = .ok (.bipush 24, 2) := by decide +kernel
theorem dX3_copyFrom_110 : decode cX3_copyFrom 110 = .ok (.invokestatic 61, 3) := by decide +kernel
theorem dX3_copyFrom_113 : decode cX3_copyFrom 113 = .ok (.return_, 1) := by decide +kernel
set_option maxHeartbeats 4000000 in
set_option maxRecDepth 100000 in
theorem s_X3_copyFrom (l : Launch) (dC : Nat → ClassId) (dI : Nat → Nat → Nat) (cI cZ cB cJ cM cG : ClassId) (a0 a1 a2 a3 a4 a5 a6 a7 a8 a9 a10 a11 a12 a13 a14 a15 : Nat) (i0 i1 : Int32) (xF0 xF1 xF2 xF3 xF4 xF5 xF6 xF7 xF8 xF9 xF10 xF11 xF12 xF13 : Nat → Int32) (sz : Nat) (p_0 : (0 : Int) ≤ i0.toInt ∧ i0.toInt ≤ 24) (p_1 : rng xF3 24 0 60) (p_2 : rng xF6 24 0 1) (p_3 : (0 : Int) ≤ i1.toInt ∧ i1.toInt ≤ 24) (p_4 : rng xF10 24 0 60) (p_5 : rng xF13 24 0 1) : Met l yX3_copyFrom (kw yX3_copyFrom cX3_copyFrom 2 none) ({ frames := 1, cells := 0, slots := 0, locals := 64 } : Room) (va_Pc [.ref a0, .ref a8] (kPre dC dI [(cI, .int), (cZ, .boolean), (cB, .byte), (cJ, .long), (cM, .object RX2), (cG, .array .int)] [(a0, .inr (3, [.int i0, .ref a1, .ref a2, .ref a3, .ref a4, .ref a5, .ref a6, .ref a7])), (a1, .inl (cI, 24, .inl xF0)), (a2, .inl (cI, 24, .inl xF1)), (a3, .inl (cI, 24, .inl xF2)), (a4, .inl (cI, 24, .inl xF3)), (a5, .inl (cI, 24, .inl xF4)), (a6, .inl (cI, 24, .inl xF5)), (a7, .inl (cZ, 24, .inl xF6)), (a8, .inr (3, [.int i1, .ref a9, .ref a10, .ref a11, .ref a12, .ref a13, .ref a14, .ref a15])), (a9, .inl (cI, 24, .inl xF7)), (a10, .inl (cI, 24, .inl xF8)), (a11, .inl (cI, 24, .inl xF9)), (a12, .inl (cI, 24, .inl xF10)), (a13, .inl (cI, 24, .inl xF11)), (a14, .inl (cI, 24, .inl xF12)), (a15, .inl (cZ, 24, .inl xF13))] sz)) (va_Qv (fun (u9 : (Nat → Int32) × (Nat → Nat → Int32) × (Nat → Nat → Int64)) => ((0 : Int) ≤ (u9.1 0).toInt ∧ (u9.1 0).toInt ≤ 24) ∧ (rng (u9.2.1 3) 24 0 60) ∧ (rng (u9.2.1 6) 24 0 1) ∧ True) (fun u9 t => va_P (dC, dI) vwCl [(a0, .inr (3, [.int (u9.1 0), .ref a1, .ref a2, .ref a3, .ref a4, .ref a5, .ref a6, .ref a7])), (a1, .inl (cI, 24, .inl (u9.2.1 0))), (a2, .inl (cI, 24, .inl (u9.2.1 1))), (a3, .inl (cI, 24, .inl (u9.2.1 2))), (a4, .inl (cI, 24, .inl (u9.2.1 3))), (a5, .inl (cI, 24, .inl (u9.2.1 4))), (a6, .inl (cI, 24, .inl (u9.2.1 5))), (a7, .inl (cZ, 24, .inl (u9.2.1 6))), (a8, .inr (3, [.int i1, .ref a9, .ref a10, .ref a11, .ref a12, .ref a13, .ref a14, .ref a15])), (a9, .inl (cI, 24, .inl xF7)), (a10, .inl (cI, 24, .inl xF8)), (a11, .inl (cI, 24, .inl xF9)), (a12, .inl (cI, 24, .inl xF10)), (a13, .inl (cI, 24, .inl xF11)), (a14, .inl (cI, 24, .inl xF12)), (a15, .inl (cZ, 24, .inl xF13))] t.heap ∧ va_D (va_A [(a0, .inr (3, [.int i0, .ref a1, .ref a2, .ref a3, .ref a4, .ref a5, .ref a6, .ref a7])), (a1, .inl (cI, 24, .inl xF0)), (a2, .inl (cI, 24, .inl xF1)), (a3, .inl (cI, 24, .inl xF2)), (a4, .inl (cI, 24, .inl xF3)), (a5, .inl (cI, 24, .inl xF4)), (a6, .inl (cI, 24, .inl xF5)), (a7, .inl (cZ, 24, .inl xF6)), (a8, .inr (3, [.int i1, .ref a9, .ref a10, .ref a11, .ref a12, .ref a13, .ref a14, .ref a15])), (a9, .inl (cI, 24, .inl xF7)), (a10, .inl (cI, 24, .inl xF8)), (a11, .inl (cI, 24, .inl xF9)), (a12, .inl (cI, 24, .inl xF10)), (a13, .inl (cI, 24, .inl xF11)), (a14, .inl (cI, 24, .inl xF12)), (a15, .inl (cZ, 24, .inl xF13))] sz) [(a0, .inr (3, [.int (u9.1 0), .ref a1, .ref a2, .ref a3, .ref a4, .ref a5, .ref a6, .ref a7])), (a1, .inl (cI, 24, .inl (u9.2.1 0))), (a2, .inl (cI, 24, .inl (u9.2.1 1))), (a3, .inl (cI, 24, .inl (u9.2.1 2))), (a4, .inl (cI, 24, .inl (u9.2.1 3))), (a5, .inl (cI, 24, .inl (u9.2.1 4))), (a6, .inl (cI, 24, .inl (u9.2.1 5))), (a7, .inl (cZ, 24, .inl (u9.2.1 6))), (a8, .inr (3, [.int i1, .ref a9, .ref a10, .ref a11, .ref a12, .ref a13, .ref a14, .ref a15])), (a9, .inl (cI, 24, .inl xF7)), (a10, .inl (cI, 24, .inl xF8)), (a11, .inl (cI, 24, .inl xF9)), (a12, .inl (cI, 24, .inl xF10)), (a13, .inl (cI, 24, .inl xF11)), (a14, .inl (cI, 24, .inl xF12)), (a15, .inl (cZ, 24, .inl xF13))]) (va_A [(a0, .inr (3, [.int i0, .ref a1, .ref a2, .ref a3, .ref a4, .ref a5, .ref a6, .ref a7])), (a1, .inl (cI, 24, .inl xF0)), (a2, .inl (cI, 24, .inl xF1)), (a3, .inl (cI, 24, .inl xF2)), (a4, .inl (cI, 24, .inl xF3)), (a5, .inl (cI, 24, .inl xF4)), (a6, .inl (cI, 24, .inl xF5)), (a7, .inl (cZ, 24, .inl xF6)), (a8, .inr (3, [.int i1, .ref a9, .ref a10, .ref a11, .ref a12, .ref a13, .ref a14, .ref a15])), (a9, .inl (cI, 24, .inl xF7)), (a10, .inl (cI, 24, .inl xF8)), (a11, .inl (cI, 24, .inl xF9)), (a12, .inl (cI, 24, .inl xF10)), (a13, .inl (cI, 24, .inl xF11)), (a14, .inl (cI, 24, .inl xF12)), (a15, .inl (cZ, 24, .inl xF13))] sz)) 0 0 (va_A [(a0, .inr (3, [.int i0, .ref a1, .ref a2, .ref a3, .ref a4, .ref a5, .ref a6, .ref a7])), (a1, .inl (cI, 24, .inl xF0)), (a2, .inl (cI, 24, .inl xF1)), (a3, .inl (cI, 24, .inl xF2)), (a4, .inl (cI, 24, .inl xF3)), (a5, .inl (cI, 24, .inl xF4)), (a6, .inl (cI, 24, .inl xF5)), (a7, .inl (cZ, 24, .inl xF6)), (a8, .inr (3, [.int i1, .ref a9, .ref a10, .ref a11, .ref a12, .ref a13, .ref a14, .ref a15])), (a9, .inl (cI, 24, .inl xF7)), (a10, .inl (cI, 24, .inl xF8)), (a11, .inl (cI, 24, .inl xF9)), (a12, .inl (cI, 24, .inl xF10)), (a13, .inl (cI, 24, .inl xF11)), (a14, .inl (cI, 24, .inl xF12)), (a15, .inl (cZ, 24, .inl xF13))] sz) := by
  refine kEnter (by decide) (Nat.le_of_ble_eq_true rfl) ?_
  intro p e s m below meth c ls hx hb hr hml hown hlocks hin hwd hsz hP hK hD hl
  subst hsz
  generalize hAe : va_A [(a0, .inr (3, [.int i0, .ref a1, .ref a2, .ref a3, .ref a4, .ref a5, .ref a6, .ref a7])), (a1, .inl (cI, 24, .inl xF0)), (a2, .inl (cI, 24, .inl xF1)), (a3, .inl (cI, 24, .inl xF2)), (a4, .inl (cI, 24, .inl xF3)), (a5, .inl (cI, 24, .inl xF4)), (a6, .inl (cI, 24, .inl xF5)), (a7, .inl (cZ, 24, .inl xF6)), (a8, .inr (3, [.int i1, .ref a9, .ref a10, .ref a11, .ref a12, .ref a13, .ref a14, .ref a15])), (a9, .inl (cI, 24, .inl xF7)), (a10, .inl (cI, 24, .inl xF8)), (a11, .inl (cI, 24, .inl xF9)), (a12, .inl (cI, 24, .inl xF10)), (a13, .inl (cI, 24, .inl xF11)), (a14, .inl (cI, 24, .inl xF12)), (a15, .inl (cZ, 24, .inl xF13))] s.heap.size = A at hD ⊢
  have hA : ∀ q : Nat, s.heap.size ≤ q → A q := fun q h => by rw [← hAe]; exact Or.inr h
  have hS : va_S A s.heap s.heap [] := va_S.rf
  have hl : lv_has ls 2 [(0, .ref a0), (1, .ref a8)] := hl
  obtain ⟨Q, hQ⟩ : ∃ Q, Q = MQ below (va_Qv (fun (u9 : (Nat → Int32) × (Nat → Nat → Int32) × (Nat → Nat → Int64)) => ((0 : Int) ≤ (u9.1 0).toInt ∧ (u9.1 0).toInt ≤ 24) ∧ (rng (u9.2.1 3) 24 0 60) ∧ (rng (u9.2.1 6) 24 0 1) ∧ True) (fun u9 t => va_P (dC, dI) vwCl [(a0, .inr (3, [.int (u9.1 0), .ref a1, .ref a2, .ref a3, .ref a4, .ref a5, .ref a6, .ref a7])), (a1, .inl (cI, 24, .inl (u9.2.1 0))), (a2, .inl (cI, 24, .inl (u9.2.1 1))), (a3, .inl (cI, 24, .inl (u9.2.1 2))), (a4, .inl (cI, 24, .inl (u9.2.1 3))), (a5, .inl (cI, 24, .inl (u9.2.1 4))), (a6, .inl (cI, 24, .inl (u9.2.1 5))), (a7, .inl (cZ, 24, .inl (u9.2.1 6))), (a8, .inr (3, [.int i1, .ref a9, .ref a10, .ref a11, .ref a12, .ref a13, .ref a14, .ref a15])), (a9, .inl (cI, 24, .inl xF7)), (a10, .inl (cI, 24, .inl xF8)), (a11, .inl (cI, 24, .inl xF9)), (a12, .inl (cI, 24, .inl xF10)), (a13, .inl (cI, 24, .inl xF11)), (a14, .inl (cI, 24, .inl xF12)), (a15, .inl (cZ, 24, .inl xF13))] t.heap ∧ va_D A [(a0, .inr (3, [.int (u9.1 0), .ref a1, .ref a2, .ref a3, .ref a4, .ref a5, .ref a6, .ref a7])), (a1, .inl (cI, 24, .inl (u9.2.1 0))), (a2, .inl (cI, 24, .inl (u9.2.1 1))), (a3, .inl (cI, 24, .inl (u9.2.1 2))), (a4, .inl (cI, 24, .inl (u9.2.1 3))), (a5, .inl (cI, 24, .inl (u9.2.1 4))), (a6, .inl (cI, 24, .inl (u9.2.1 5))), (a7, .inl (cZ, 24, .inl (u9.2.1 6))), (a8, .inr (3, [.int i1, .ref a9, .ref a10, .ref a11, .ref a12, .ref a13, .ref a14, .ref a15])), (a9, .inl (cI, 24, .inl xF7)), (a10, .inl (cI, 24, .inl xF8)), (a11, .inl (cI, 24, .inl xF9)), (a12, .inl (cI, 24, .inl xF10)), (a13, .inl (cI, 24, .inl xF11)), (a14, .inl (cI, 24, .inl xF12)), (a15, .inl (cZ, 24, .inl xF13))]) A) ([.ref a0, .ref a8] : List Value).toArray s 0 0 A := ⟨_, rfl⟩
  rw [← hQ]
  refine lv_aload_n hx hb dX3_copyFrom_0 rfl (lv_at hl 0 rfl) ?_
  refine lv_aload_n hx hb dX3_copyFrom_1 rfl (lv_at hl 1 rfl) ?_
  refine va_get (D := (dC, dI)) (ci := 3) (v := .int i1) (C := RX3) (T := TX3) (N := 8) hx hb hwd inlX3 hown hK hP 8 rfl rfl 0 (by decide) (hwd _ kr11_1) (fun _ h9 => h9) rfl dX3_copyFrom_2 ?_
  refine va_put (D := (dC, dI)) (ci := 3) (v := .int i1) (ty := .int) (C := RX3) (T := TX3) (N := 8) hx hb hwd inlX3 tyX3 tyX3_ok nmX3 hown hK hP hD hS 0 rfl rfl 0 (by decide) (hwd _ kr11_1) (fun _ h9 => h9) rfl (by decide +kernel) rfl rfl (Nat.le_of_ble_eq_true rfl) dX3_copyFrom_5 (fun H locs hP hD hS => ?_)
  replace hP : va_P (dC, dI) vwCl [(a0, .inr (3, [.int i1, .ref a1, .ref a2, .ref a3, .ref a4, .ref a5, .ref a6, .ref a7])), (a1, .inl (cI, 24, .inl xF0)), (a2, .inl (cI, 24, .inl xF1)), (a3, .inl (cI, 24, .inl xF2)), (a4, .inl (cI, 24, .inl xF3)), (a5, .inl (cI, 24, .inl xF4)), (a6, .inl (cI, 24, .inl xF5)), (a7, .inl (cZ, 24, .inl xF6)), (a8, .inr (3, [.int i1, .ref a9, .ref a10, .ref a11, .ref a12, .ref a13, .ref a14, .ref a15])), (a9, .inl (cI, 24, .inl xF7)), (a10, .inl (cI, 24, .inl xF8)), (a11, .inl (cI, 24, .inl xF9)), (a12, .inl (cI, 24, .inl xF10)), (a13, .inl (cI, 24, .inl xF11)), (a14, .inl (cI, 24, .inl xF12)), (a15, .inl (cZ, 24, .inl xF13))] H := hP
  replace hD : va_D A [(a0, .inr (3, [.int i1, .ref a1, .ref a2, .ref a3, .ref a4, .ref a5, .ref a6, .ref a7])), (a1, .inl (cI, 24, .inl xF0)), (a2, .inl (cI, 24, .inl xF1)), (a3, .inl (cI, 24, .inl xF2)), (a4, .inl (cI, 24, .inl xF3)), (a5, .inl (cI, 24, .inl xF4)), (a6, .inl (cI, 24, .inl xF5)), (a7, .inl (cZ, 24, .inl xF6)), (a8, .inr (3, [.int i1, .ref a9, .ref a10, .ref a11, .ref a12, .ref a13, .ref a14, .ref a15])), (a9, .inl (cI, 24, .inl xF7)), (a10, .inl (cI, 24, .inl xF8)), (a11, .inl (cI, 24, .inl xF9)), (a12, .inl (cI, 24, .inl xF10)), (a13, .inl (cI, 24, .inl xF11)), (a14, .inl (cI, 24, .inl xF12)), (a15, .inl (cZ, 24, .inl xF13))] := hD
  refine lv_aload_n hx hb dX3_copyFrom_8 rfl (lv_at hl 1 rfl) ?_
  refine va_get (D := (dC, dI)) (ci := 3) (v := .ref a9) (C := RX3) (T := TX3) (N := 8) hx hb hwd inlX3 hown hK hP 8 rfl rfl 1 (by decide) (hwd _ kr11_6) (fun _ h9 => h9) rfl dX3_copyFrom_9 ?_
  refine lv_iconst (v := 0) hx hb dX3_copyFrom_12 (by decide) ?_
  refine lv_aload_n hx hb dX3_copyFrom_13 rfl (lv_at hl 0 rfl) ?_
  refine va_get (D := (dC, dI)) (ci := 3) (v := .ref a1) (C := RX3) (T := TX3) (N := 8) hx hb hwd inlX3 hown hK hP 0 rfl rfl 1 (by decide) (hwd _ kr11_6) (fun _ h9 => h9) rfl dX3_copyFrom_14 ?_
  refine lv_iconst (v := 0) hx hb dX3_copyFrom_17 (by decide) ?_
  refine lv_bipush (v := 24) hx hb dX3_copyFrom_18 (by decide) ?_
  refine va_copyi hx hb (by rw [hml]; exact hl.1.symm) hown (hwd _ kr46_13) (hwd _ kr27_6) (hwd _ kr27_5) (hwd _ kr6_6) hK hP hD hS 9 1 0 0 rfl rfl rfl rfl rfl (by decide) (by decide) (by decide) (by decide) (by decide) (fun _ _ => rfl) (Nat.le_of_ble_eq_true rfl) (Nat.le_of_ble_eq_true rfl) dX3_copyFrom_20 (fun H locs hP hD hS => ?_)
  obtain ⟨f1, ef1⟩ : ∃ f : Nat → Int32, f = va_cpy xF7 xF0 (0 : Int32).toNatClampNeg (0 : Int32).toNatClampNeg (24 : Int32).toNatClampNeg := ⟨_, rfl⟩
  replace hP : va_P (dC, dI) vwCl [(a0, .inr (3, [.int i1, .ref a1, .ref a2, .ref a3, .ref a4, .ref a5, .ref a6, .ref a7])), (a1, .inl (cI, 24, .inl f1)), (a2, .inl (cI, 24, .inl xF1)), (a3, .inl (cI, 24, .inl xF2)), (a4, .inl (cI, 24, .inl xF3)), (a5, .inl (cI, 24, .inl xF4)), (a6, .inl (cI, 24, .inl xF5)), (a7, .inl (cZ, 24, .inl xF6)), (a8, .inr (3, [.int i1, .ref a9, .ref a10, .ref a11, .ref a12, .ref a13, .ref a14, .ref a15])), (a9, .inl (cI, 24, .inl xF7)), (a10, .inl (cI, 24, .inl xF8)), (a11, .inl (cI, 24, .inl xF9)), (a12, .inl (cI, 24, .inl xF10)), (a13, .inl (cI, 24, .inl xF11)), (a14, .inl (cI, 24, .inl xF12)), (a15, .inl (cZ, 24, .inl xF13))] H := by rw [ef1]; exact hP
  replace hD : va_D A [(a0, .inr (3, [.int i1, .ref a1, .ref a2, .ref a3, .ref a4, .ref a5, .ref a6, .ref a7])), (a1, .inl (cI, 24, .inl f1)), (a2, .inl (cI, 24, .inl xF1)), (a3, .inl (cI, 24, .inl xF2)), (a4, .inl (cI, 24, .inl xF3)), (a5, .inl (cI, 24, .inl xF4)), (a6, .inl (cI, 24, .inl xF5)), (a7, .inl (cZ, 24, .inl xF6)), (a8, .inr (3, [.int i1, .ref a9, .ref a10, .ref a11, .ref a12, .ref a13, .ref a14, .ref a15])), (a9, .inl (cI, 24, .inl xF7)), (a10, .inl (cI, 24, .inl xF8)), (a11, .inl (cI, 24, .inl xF9)), (a12, .inl (cI, 24, .inl xF10)), (a13, .inl (cI, 24, .inl xF11)), (a14, .inl (cI, 24, .inl xF12)), (a15, .inl (cZ, 24, .inl xF13))] := by rw [ef1]; exact hD
  refine lv_aload_n hx hb dX3_copyFrom_23 rfl (lv_at hl 1 rfl) ?_
  refine va_get (D := (dC, dI)) (ci := 3) (v := .ref a10) (C := RX3) (T := TX3) (N := 8) hx hb hwd inlX3 hown hK hP 8 rfl rfl 2 (by decide) (hwd _ kr11_10) (fun _ h9 => h9) rfl dX3_copyFrom_24 ?_
  refine lv_iconst (v := 0) hx hb dX3_copyFrom_27 (by decide) ?_
  refine lv_aload_n hx hb dX3_copyFrom_28 rfl (lv_at hl 0 rfl) ?_
  refine va_get (D := (dC, dI)) (ci := 3) (v := .ref a2) (C := RX3) (T := TX3) (N := 8) hx hb hwd inlX3 hown hK hP 0 rfl rfl 2 (by decide) (hwd _ kr11_10) (fun _ h9 => h9) rfl dX3_copyFrom_29 ?_
  refine lv_iconst (v := 0) hx hb dX3_copyFrom_32 (by decide) ?_
  refine lv_bipush (v := 24) hx hb dX3_copyFrom_33 (by decide) ?_
  refine va_copyi hx hb (by rw [hml]; exact hl.1.symm) hown (hwd _ kr46_13) (hwd _ kr27_6) (hwd _ kr27_5) (hwd _ kr6_6) hK hP hD hS 10 2 0 0 rfl rfl rfl rfl rfl (by decide) (by decide) (by decide) (by decide) (by decide) (fun _ _ => rfl) (Nat.le_of_ble_eq_true rfl) (Nat.le_of_ble_eq_true rfl) dX3_copyFrom_35 (fun H locs hP hD hS => ?_)
  obtain ⟨f2, ef2⟩ : ∃ f : Nat → Int32, f = va_cpy xF8 xF1 (0 : Int32).toNatClampNeg (0 : Int32).toNatClampNeg (24 : Int32).toNatClampNeg := ⟨_, rfl⟩
  replace hP : va_P (dC, dI) vwCl [(a0, .inr (3, [.int i1, .ref a1, .ref a2, .ref a3, .ref a4, .ref a5, .ref a6, .ref a7])), (a1, .inl (cI, 24, .inl f1)), (a2, .inl (cI, 24, .inl f2)), (a3, .inl (cI, 24, .inl xF2)), (a4, .inl (cI, 24, .inl xF3)), (a5, .inl (cI, 24, .inl xF4)), (a6, .inl (cI, 24, .inl xF5)), (a7, .inl (cZ, 24, .inl xF6)), (a8, .inr (3, [.int i1, .ref a9, .ref a10, .ref a11, .ref a12, .ref a13, .ref a14, .ref a15])), (a9, .inl (cI, 24, .inl xF7)), (a10, .inl (cI, 24, .inl xF8)), (a11, .inl (cI, 24, .inl xF9)), (a12, .inl (cI, 24, .inl xF10)), (a13, .inl (cI, 24, .inl xF11)), (a14, .inl (cI, 24, .inl xF12)), (a15, .inl (cZ, 24, .inl xF13))] H := by rw [ef2]; exact hP
  replace hD : va_D A [(a0, .inr (3, [.int i1, .ref a1, .ref a2, .ref a3, .ref a4, .ref a5, .ref a6, .ref a7])), (a1, .inl (cI, 24, .inl f1)), (a2, .inl (cI, 24, .inl f2)), (a3, .inl (cI, 24, .inl xF2)), (a4, .inl (cI, 24, .inl xF3)), (a5, .inl (cI, 24, .inl xF4)), (a6, .inl (cI, 24, .inl xF5)), (a7, .inl (cZ, 24, .inl xF6)), (a8, .inr (3, [.int i1, .ref a9, .ref a10, .ref a11, .ref a12, .ref a13, .ref a14, .ref a15])), (a9, .inl (cI, 24, .inl xF7)), (a10, .inl (cI, 24, .inl xF8)), (a11, .inl (cI, 24, .inl xF9)), (a12, .inl (cI, 24, .inl xF10)), (a13, .inl (cI, 24, .inl xF11)), (a14, .inl (cI, 24, .inl xF12)), (a15, .inl (cZ, 24, .inl xF13))] := by rw [ef2]; exact hD
  refine lv_aload_n hx hb dX3_copyFrom_38 rfl (lv_at hl 1 rfl) ?_
  refine va_get (D := (dC, dI)) (ci := 3) (v := .ref a11) (C := RX3) (T := TX3) (N := 8) hx hb hwd inlX3 hown hK hP 8 rfl rfl 3 (by decide) (hwd _ kr11_13) (fun _ h9 => h9) rfl dX3_copyFrom_39 ?_
  refine lv_iconst (v := 0) hx hb dX3_copyFrom_42 (by decide) ?_
  refine lv_aload_n hx hb dX3_copyFrom_43 rfl (lv_at hl 0 rfl) ?_
  refine va_get (D := (dC, dI)) (ci := 3) (v := .ref a3) (C := RX3) (T := TX3) (N := 8) hx hb hwd inlX3 hown hK hP 0 rfl rfl 3 (by decide) (hwd _ kr11_13) (fun _ h9 => h9) rfl dX3_copyFrom_44 ?_
  refine lv_iconst (v := 0) hx hb dX3_copyFrom_47 (by decide) ?_
  refine lv_bipush (v := 24) hx hb dX3_copyFrom_48 (by decide) ?_
  refine va_copyi hx hb (by rw [hml]; exact hl.1.symm) hown (hwd _ kr46_13) (hwd _ kr27_6) (hwd _ kr27_5) (hwd _ kr6_6) hK hP hD hS 11 3 0 0 rfl rfl rfl rfl rfl (by decide) (by decide) (by decide) (by decide) (by decide) (fun _ _ => rfl) (Nat.le_of_ble_eq_true rfl) (Nat.le_of_ble_eq_true rfl) dX3_copyFrom_50 (fun H locs hP hD hS => ?_)
  obtain ⟨f3, ef3⟩ : ∃ f : Nat → Int32, f = va_cpy xF9 xF2 (0 : Int32).toNatClampNeg (0 : Int32).toNatClampNeg (24 : Int32).toNatClampNeg := ⟨_, rfl⟩
  replace hP : va_P (dC, dI) vwCl [(a0, .inr (3, [.int i1, .ref a1, .ref a2, .ref a3, .ref a4, .ref a5, .ref a6, .ref a7])), (a1, .inl (cI, 24, .inl f1)), (a2, .inl (cI, 24, .inl f2)), (a3, .inl (cI, 24, .inl f3)), (a4, .inl (cI, 24, .inl xF3)), (a5, .inl (cI, 24, .inl xF4)), (a6, .inl (cI, 24, .inl xF5)), (a7, .inl (cZ, 24, .inl xF6)), (a8, .inr (3, [.int i1, .ref a9, .ref a10, .ref a11, .ref a12, .ref a13, .ref a14, .ref a15])), (a9, .inl (cI, 24, .inl xF7)), (a10, .inl (cI, 24, .inl xF8)), (a11, .inl (cI, 24, .inl xF9)), (a12, .inl (cI, 24, .inl xF10)), (a13, .inl (cI, 24, .inl xF11)), (a14, .inl (cI, 24, .inl xF12)), (a15, .inl (cZ, 24, .inl xF13))] H := by rw [ef3]; exact hP
  replace hD : va_D A [(a0, .inr (3, [.int i1, .ref a1, .ref a2, .ref a3, .ref a4, .ref a5, .ref a6, .ref a7])), (a1, .inl (cI, 24, .inl f1)), (a2, .inl (cI, 24, .inl f2)), (a3, .inl (cI, 24, .inl f3)), (a4, .inl (cI, 24, .inl xF3)), (a5, .inl (cI, 24, .inl xF4)), (a6, .inl (cI, 24, .inl xF5)), (a7, .inl (cZ, 24, .inl xF6)), (a8, .inr (3, [.int i1, .ref a9, .ref a10, .ref a11, .ref a12, .ref a13, .ref a14, .ref a15])), (a9, .inl (cI, 24, .inl xF7)), (a10, .inl (cI, 24, .inl xF8)), (a11, .inl (cI, 24, .inl xF9)), (a12, .inl (cI, 24, .inl xF10)), (a13, .inl (cI, 24, .inl xF11)), (a14, .inl (cI, 24, .inl xF12)), (a15, .inl (cZ, 24, .inl xF13))] := by rw [ef3]; exact hD
  refine lv_aload_n hx hb dX3_copyFrom_53 rfl (lv_at hl 1 rfl) ?_
  refine va_get (D := (dC, dI)) (ci := 3) (v := .ref a12) (C := RX3) (T := TX3) (N := 8) hx hb hwd inlX3 hown hK hP 8 rfl rfl 4 (by decide) (hwd _ kr11_16) (fun _ h9 => h9) rfl dX3_copyFrom_54 ?_
  refine lv_iconst (v := 0) hx hb dX3_copyFrom_57 (by decide) ?_
  refine lv_aload_n hx hb dX3_copyFrom_58 rfl (lv_at hl 0 rfl) ?_
  refine va_get (D := (dC, dI)) (ci := 3) (v := .ref a4) (C := RX3) (T := TX3) (N := 8) hx hb hwd inlX3 hown hK hP 0 rfl rfl 4 (by decide) (hwd _ kr11_16) (fun _ h9 => h9) rfl dX3_copyFrom_59 ?_
  refine lv_iconst (v := 0) hx hb dX3_copyFrom_62 (by decide) ?_
  refine lv_bipush (v := 24) hx hb dX3_copyFrom_63 (by decide) ?_
  refine va_copyi hx hb (by rw [hml]; exact hl.1.symm) hown (hwd _ kr46_13) (hwd _ kr27_6) (hwd _ kr27_5) (hwd _ kr6_6) hK hP hD hS 12 4 0 0 rfl rfl rfl rfl rfl (by decide) (by decide) (by decide) (by decide) (by decide) (fun _ _ => rfl) (Nat.le_of_ble_eq_true rfl) (Nat.le_of_ble_eq_true rfl) dX3_copyFrom_65 (fun H locs hP hD hS => ?_)
  obtain ⟨f4, ef4⟩ : ∃ f : Nat → Int32, f = va_cpy xF10 xF3 (0 : Int32).toNatClampNeg (0 : Int32).toNatClampNeg (24 : Int32).toNatClampNeg := ⟨_, rfl⟩
  have rf4 : rng f4 24 0 60 := by rw [ef4]; exact rng_cpyA p_4 (by decide)
  replace hP : va_P (dC, dI) vwCl [(a0, .inr (3, [.int i1, .ref a1, .ref a2, .ref a3, .ref a4, .ref a5, .ref a6, .ref a7])), (a1, .inl (cI, 24, .inl f1)), (a2, .inl (cI, 24, .inl f2)), (a3, .inl (cI, 24, .inl f3)), (a4, .inl (cI, 24, .inl f4)), (a5, .inl (cI, 24, .inl xF4)), (a6, .inl (cI, 24, .inl xF5)), (a7, .inl (cZ, 24, .inl xF6)), (a8, .inr (3, [.int i1, .ref a9, .ref a10, .ref a11, .ref a12, .ref a13, .ref a14, .ref a15])), (a9, .inl (cI, 24, .inl xF7)), (a10, .inl (cI, 24, .inl xF8)), (a11, .inl (cI, 24, .inl xF9)), (a12, .inl (cI, 24, .inl xF10)), (a13, .inl (cI, 24, .inl xF11)), (a14, .inl (cI, 24, .inl xF12)), (a15, .inl (cZ, 24, .inl xF13))] H := by rw [ef4]; exact hP
  replace hD : va_D A [(a0, .inr (3, [.int i1, .ref a1, .ref a2, .ref a3, .ref a4, .ref a5, .ref a6, .ref a7])), (a1, .inl (cI, 24, .inl f1)), (a2, .inl (cI, 24, .inl f2)), (a3, .inl (cI, 24, .inl f3)), (a4, .inl (cI, 24, .inl f4)), (a5, .inl (cI, 24, .inl xF4)), (a6, .inl (cI, 24, .inl xF5)), (a7, .inl (cZ, 24, .inl xF6)), (a8, .inr (3, [.int i1, .ref a9, .ref a10, .ref a11, .ref a12, .ref a13, .ref a14, .ref a15])), (a9, .inl (cI, 24, .inl xF7)), (a10, .inl (cI, 24, .inl xF8)), (a11, .inl (cI, 24, .inl xF9)), (a12, .inl (cI, 24, .inl xF10)), (a13, .inl (cI, 24, .inl xF11)), (a14, .inl (cI, 24, .inl xF12)), (a15, .inl (cZ, 24, .inl xF13))] := by rw [ef4]; exact hD
  refine lv_aload_n hx hb dX3_copyFrom_68 rfl (lv_at hl 1 rfl) ?_
  refine va_get (D := (dC, dI)) (ci := 3) (v := .ref a13) (C := RX3) (T := TX3) (N := 8) hx hb hwd inlX3 hown hK hP 8 rfl rfl 5 (by decide) (hwd _ kr11_20) (fun _ h9 => h9) rfl dX3_copyFrom_69 ?_
  refine lv_iconst (v := 0) hx hb dX3_copyFrom_72 (by decide) ?_
  refine lv_aload_n hx hb dX3_copyFrom_73 rfl (lv_at hl 0 rfl) ?_
  refine va_get (D := (dC, dI)) (ci := 3) (v := .ref a5) (C := RX3) (T := TX3) (N := 8) hx hb hwd inlX3 hown hK hP 0 rfl rfl 5 (by decide) (hwd _ kr11_20) (fun _ h9 => h9) rfl dX3_copyFrom_74 ?_
  refine lv_iconst (v := 0) hx hb dX3_copyFrom_77 (by decide) ?_
  refine lv_bipush (v := 24) hx hb dX3_copyFrom_78 (by decide) ?_
  refine va_copyi hx hb (by rw [hml]; exact hl.1.symm) hown (hwd _ kr46_13) (hwd _ kr27_6) (hwd _ kr27_5) (hwd _ kr6_6) hK hP hD hS 13 5 0 0 rfl rfl rfl rfl rfl (by decide) (by decide) (by decide) (by decide) (by decide) (fun _ _ => rfl) (Nat.le_of_ble_eq_true rfl) (Nat.le_of_ble_eq_true rfl) dX3_copyFrom_80 (fun H locs hP hD hS => ?_)
  obtain ⟨f5, ef5⟩ : ∃ f : Nat → Int32, f = va_cpy xF11 xF4 (0 : Int32).toNatClampNeg (0 : Int32).toNatClampNeg (24 : Int32).toNatClampNeg := ⟨_, rfl⟩
  replace hP : va_P (dC, dI) vwCl [(a0, .inr (3, [.int i1, .ref a1, .ref a2, .ref a3, .ref a4, .ref a5, .ref a6, .ref a7])), (a1, .inl (cI, 24, .inl f1)), (a2, .inl (cI, 24, .inl f2)), (a3, .inl (cI, 24, .inl f3)), (a4, .inl (cI, 24, .inl f4)), (a5, .inl (cI, 24, .inl f5)), (a6, .inl (cI, 24, .inl xF5)), (a7, .inl (cZ, 24, .inl xF6)), (a8, .inr (3, [.int i1, .ref a9, .ref a10, .ref a11, .ref a12, .ref a13, .ref a14, .ref a15])), (a9, .inl (cI, 24, .inl xF7)), (a10, .inl (cI, 24, .inl xF8)), (a11, .inl (cI, 24, .inl xF9)), (a12, .inl (cI, 24, .inl xF10)), (a13, .inl (cI, 24, .inl xF11)), (a14, .inl (cI, 24, .inl xF12)), (a15, .inl (cZ, 24, .inl xF13))] H := by rw [ef5]; exact hP
  replace hD : va_D A [(a0, .inr (3, [.int i1, .ref a1, .ref a2, .ref a3, .ref a4, .ref a5, .ref a6, .ref a7])), (a1, .inl (cI, 24, .inl f1)), (a2, .inl (cI, 24, .inl f2)), (a3, .inl (cI, 24, .inl f3)), (a4, .inl (cI, 24, .inl f4)), (a5, .inl (cI, 24, .inl f5)), (a6, .inl (cI, 24, .inl xF5)), (a7, .inl (cZ, 24, .inl xF6)), (a8, .inr (3, [.int i1, .ref a9, .ref a10, .ref a11, .ref a12, .ref a13, .ref a14, .ref a15])), (a9, .inl (cI, 24, .inl xF7)), (a10, .inl (cI, 24, .inl xF8)), (a11, .inl (cI, 24, .inl xF9)), (a12, .inl (cI, 24, .inl xF10)), (a13, .inl (cI, 24, .inl xF11)), (a14, .inl (cI, 24, .inl xF12)), (a15, .inl (cZ, 24, .inl xF13))] := by rw [ef5]; exact hD
  refine lv_aload_n hx hb dX3_copyFrom_83 rfl (lv_at hl 1 rfl) ?_
  refine va_get (D := (dC, dI)) (ci := 3) (v := .ref a14) (C := RX3) (T := TX3) (N := 8) hx hb hwd inlX3 hown hK hP 8 rfl rfl 6 (by decide) (hwd _ kr11_23) (fun _ h9 => h9) rfl dX3_copyFrom_84 ?_
  refine lv_iconst (v := 0) hx hb dX3_copyFrom_87 (by decide) ?_
  refine lv_aload_n hx hb dX3_copyFrom_88 rfl (lv_at hl 0 rfl) ?_
  refine va_get (D := (dC, dI)) (ci := 3) (v := .ref a6) (C := RX3) (T := TX3) (N := 8) hx hb hwd inlX3 hown hK hP 0 rfl rfl 6 (by decide) (hwd _ kr11_23) (fun _ h9 => h9) rfl dX3_copyFrom_89 ?_
  refine lv_iconst (v := 0) hx hb dX3_copyFrom_92 (by decide) ?_
  refine lv_bipush (v := 24) hx hb dX3_copyFrom_93 (by decide) ?_
  refine va_copyi hx hb (by rw [hml]; exact hl.1.symm) hown (hwd _ kr46_13) (hwd _ kr27_6) (hwd _ kr27_5) (hwd _ kr6_6) hK hP hD hS 14 6 0 0 rfl rfl rfl rfl rfl (by decide) (by decide) (by decide) (by decide) (by decide) (fun _ _ => rfl) (Nat.le_of_ble_eq_true rfl) (Nat.le_of_ble_eq_true rfl) dX3_copyFrom_95 (fun H locs hP hD hS => ?_)
  obtain ⟨f6, ef6⟩ : ∃ f : Nat → Int32, f = va_cpy xF12 xF5 (0 : Int32).toNatClampNeg (0 : Int32).toNatClampNeg (24 : Int32).toNatClampNeg := ⟨_, rfl⟩
  replace hP : va_P (dC, dI) vwCl [(a0, .inr (3, [.int i1, .ref a1, .ref a2, .ref a3, .ref a4, .ref a5, .ref a6, .ref a7])), (a1, .inl (cI, 24, .inl f1)), (a2, .inl (cI, 24, .inl f2)), (a3, .inl (cI, 24, .inl f3)), (a4, .inl (cI, 24, .inl f4)), (a5, .inl (cI, 24, .inl f5)), (a6, .inl (cI, 24, .inl f6)), (a7, .inl (cZ, 24, .inl xF6)), (a8, .inr (3, [.int i1, .ref a9, .ref a10, .ref a11, .ref a12, .ref a13, .ref a14, .ref a15])), (a9, .inl (cI, 24, .inl xF7)), (a10, .inl (cI, 24, .inl xF8)), (a11, .inl (cI, 24, .inl xF9)), (a12, .inl (cI, 24, .inl xF10)), (a13, .inl (cI, 24, .inl xF11)), (a14, .inl (cI, 24, .inl xF12)), (a15, .inl (cZ, 24, .inl xF13))] H := by rw [ef6]; exact hP
  replace hD : va_D A [(a0, .inr (3, [.int i1, .ref a1, .ref a2, .ref a3, .ref a4, .ref a5, .ref a6, .ref a7])), (a1, .inl (cI, 24, .inl f1)), (a2, .inl (cI, 24, .inl f2)), (a3, .inl (cI, 24, .inl f3)), (a4, .inl (cI, 24, .inl f4)), (a5, .inl (cI, 24, .inl f5)), (a6, .inl (cI, 24, .inl f6)), (a7, .inl (cZ, 24, .inl xF6)), (a8, .inr (3, [.int i1, .ref a9, .ref a10, .ref a11, .ref a12, .ref a13, .ref a14, .ref a15])), (a9, .inl (cI, 24, .inl xF7)), (a10, .inl (cI, 24, .inl xF8)), (a11, .inl (cI, 24, .inl xF9)), (a12, .inl (cI, 24, .inl xF10)), (a13, .inl (cI, 24, .inl xF11)), (a14, .inl (cI, 24, .inl xF12)), (a15, .inl (cZ, 24, .inl xF13))] := by rw [ef6]; exact hD
  refine lv_aload_n hx hb dX3_copyFrom_98 rfl (lv_at hl 1 rfl) ?_
  refine va_get (D := (dC, dI)) (ci := 3) (v := .ref a15) (C := RX3) (T := TX3) (N := 8) hx hb hwd inlX3 hown hK hP 8 rfl rfl 7 (by decide) (hwd _ kr12_2) (fun _ h9 => h9) rfl dX3_copyFrom_99 ?_
  refine lv_iconst (v := 0) hx hb dX3_copyFrom_102 (by decide) ?_
  refine lv_aload_n hx hb dX3_copyFrom_103 rfl (lv_at hl 0 rfl) ?_
  refine va_get (D := (dC, dI)) (ci := 3) (v := .ref a7) (C := RX3) (T := TX3) (N := 8) hx hb hwd inlX3 hown hK hP 0 rfl rfl 7 (by decide) (hwd _ kr12_2) (fun _ h9 => h9) rfl dX3_copyFrom_104 ?_
  refine lv_iconst (v := 0) hx hb dX3_copyFrom_107 (by decide) ?_
  refine lv_bipush (v := 24) hx hb dX3_copyFrom_108 (by decide) ?_
  refine va_copyi hx hb (by rw [hml]; exact hl.1.symm) hown (hwd _ kr46_13) (hwd _ kr27_6) (hwd _ kr27_5) (hwd _ kr6_6) hK hP hD hS 15 7 1 1 rfl rfl rfl rfl rfl (by decide) (by decide) (by decide) (by decide) (by decide) (fun i hi => fit_z (p_5 _ (by have := (by decide : (0 : Int32).toNatClampNeg = 0); have := (by decide : (24 : Int32).toNatClampNeg = 24); omega))) (Nat.le_of_ble_eq_true rfl) (Nat.le_of_ble_eq_true rfl) dX3_copyFrom_110 (fun H locs hP hD hS => ?_)
  obtain ⟨f7, ef7⟩ : ∃ f : Nat → Int32, f = va_cpy xF13 xF6 (0 : Int32).toNatClampNeg (0 : Int32).toNatClampNeg (24 : Int32).toNatClampNeg := ⟨_, rfl⟩
  have rf7 : rng f7 24 0 1 := by rw [ef7]; exact rng_cpyA p_5 (by decide)
  replace hP : va_P (dC, dI) vwCl [(a0, .inr (3, [.int i1, .ref a1, .ref a2, .ref a3, .ref a4, .ref a5, .ref a6, .ref a7])), (a1, .inl (cI, 24, .inl f1)), (a2, .inl (cI, 24, .inl f2)), (a3, .inl (cI, 24, .inl f3)), (a4, .inl (cI, 24, .inl f4)), (a5, .inl (cI, 24, .inl f5)), (a6, .inl (cI, 24, .inl f6)), (a7, .inl (cZ, 24, .inl f7)), (a8, .inr (3, [.int i1, .ref a9, .ref a10, .ref a11, .ref a12, .ref a13, .ref a14, .ref a15])), (a9, .inl (cI, 24, .inl xF7)), (a10, .inl (cI, 24, .inl xF8)), (a11, .inl (cI, 24, .inl xF9)), (a12, .inl (cI, 24, .inl xF10)), (a13, .inl (cI, 24, .inl xF11)), (a14, .inl (cI, 24, .inl xF12)), (a15, .inl (cZ, 24, .inl xF13))] H := by rw [ef7]; exact hP
  replace hD : va_D A [(a0, .inr (3, [.int i1, .ref a1, .ref a2, .ref a3, .ref a4, .ref a5, .ref a6, .ref a7])), (a1, .inl (cI, 24, .inl f1)), (a2, .inl (cI, 24, .inl f2)), (a3, .inl (cI, 24, .inl f3)), (a4, .inl (cI, 24, .inl f4)), (a5, .inl (cI, 24, .inl f5)), (a6, .inl (cI, 24, .inl f6)), (a7, .inl (cZ, 24, .inl f7)), (a8, .inr (3, [.int i1, .ref a9, .ref a10, .ref a11, .ref a12, .ref a13, .ref a14, .ref a15])), (a9, .inl (cI, 24, .inl xF7)), (a10, .inl (cI, 24, .inl xF8)), (a11, .inl (cI, 24, .inl xF9)), (a12, .inl (cI, 24, .inl xF10)), (a13, .inl (cI, 24, .inl xF11)), (a14, .inl (cI, 24, .inl xF12)), (a15, .inl (cZ, 24, .inl xF13))] := by rw [ef7]; exact hD
  have hP9 := hP.sub (ws' := [(a0, .inr (3, [.int i1, .ref a1, .ref a2, .ref a3, .ref a4, .ref a5, .ref a6, .ref a7])), (a1, .inl (cI, 24, .inl f1)), (a2, .inl (cI, 24, .inl f2)), (a3, .inl (cI, 24, .inl f3)), (a4, .inl (cI, 24, .inl f4)), (a5, .inl (cI, 24, .inl f5)), (a6, .inl (cI, 24, .inl f6)), (a7, .inl (cZ, 24, .inl f7)), (a8, .inr (3, [.int i1, .ref a9, .ref a10, .ref a11, .ref a12, .ref a13, .ref a14, .ref a15])), (a9, .inl (cI, 24, .inl xF7)), (a10, .inl (cI, 24, .inl xF8)), (a11, .inl (cI, 24, .inl xF9)), (a12, .inl (cI, 24, .inl xF10)), (a13, .inl (cI, 24, .inl xF11)), (a14, .inl (cI, 24, .inl xF12)), (a15, .inl (cZ, 24, .inl xF13))]) [0, 1, 2, 3, 4, 5, 6, 7, 8, 9, 10, 11, 12, 13, 14, 15] rfl
  have hD9 := hD.sub (ws' := [(a0, .inr (3, [.int i1, .ref a1, .ref a2, .ref a3, .ref a4, .ref a5, .ref a6, .ref a7])), (a1, .inl (cI, 24, .inl f1)), (a2, .inl (cI, 24, .inl f2)), (a3, .inl (cI, 24, .inl f3)), (a4, .inl (cI, 24, .inl f4)), (a5, .inl (cI, 24, .inl f5)), (a6, .inl (cI, 24, .inl f6)), (a7, .inl (cZ, 24, .inl f7)), (a8, .inr (3, [.int i1, .ref a9, .ref a10, .ref a11, .ref a12, .ref a13, .ref a14, .ref a15])), (a9, .inl (cI, 24, .inl xF7)), (a10, .inl (cI, 24, .inl xF8)), (a11, .inl (cI, 24, .inl xF9)), (a12, .inl (cI, 24, .inl xF10)), (a13, .inl (cI, 24, .inl xF11)), (a14, .inl (cI, 24, .inl xF12)), (a15, .inl (cZ, 24, .inl xF13))]) [0, 1, 2, 3, 4, 5, 6, 7, 8, 9, 10, 11, 12, 13, 14, 15] (by decide) rfl
  rw [hQ]
  exact W.vret hx hb hr (fun t ht hW => ⟨⟨(pickG 0 [i1], pickG (fun _ => 0) [f1, f2, f3, f4, f5, f6, f7], pickG (fun _ => 0) []), rfl, ⟨(show (0 : Int) ≤ i1.toInt ∧ i1.toInt ≤ 24 from p_3), (show rng f4 24 0 60 from rf4), (show rng f7 24 0 1 from rf7), trivial⟩, (by rw [ht]; exact hP9), hD9⟩, hS.F ht⟩) hS.2.2 dX3_copyFrom_113
theorem dX3_brokenBits_0 : decode cX3_brokenBits 0 = .ok (.iconst 0, 1) := by decide +kernel
theorem dX3_brokenBits_1 : decode cX3_brokenBits 1 = .ok (.istore_n 1, 1) := by decide +kernel
theorem dX3_brokenBits_2 : decode cX3_brokenBits 2 = .ok (.iconst 0, 1) := by decide +kernel
theorem dX3_brokenBits_3 : decode cX3_brokenBits 3 = .ok (.istore_n 2, 1) := by decide +kernel
theorem dX3_brokenBits_4 : decode cX3_brokenBits 4 = .ok (.iload_n 2, 1) := by decide +kernel
theorem dX3_brokenBits_5 : decode cX3_brokenBits 5 = .ok (.aload_n 0, 1) := by decide +kernel
theorem dX3_brokenBits_6 : decode cX3_brokenBits 6 = .ok (.getfield 34, 3) := by decide +kernel
theorem dX3_brokenBits_9 : decode cX3_brokenBits 9 = .ok (.if_icmp .ge 24, 3) := by decide +kernel
theorem dX3_brokenBits_12 : decode cX3_brokenBits 12 = .ok (.aload_n 0, 1) := by decide +kernel
theorem dX3_brokenBits_13 : decode cX3_brokenBits 13 = .ok (.getfield 30, 3) := by decide +kernel
theorem dX3_brokenBits_16 : decode cX3_brokenBits 16 = .ok (.iload_n 2, 1) := by decide +kernel
theorem dX3_brokenBits_17 : decode cX3_brokenBits 17 = .ok (.baload, 1) := by decide +kernel
theorem dX3_brokenBits_18 : decode cX3_brokenBits 18 = .ok (.ifCond .eq 9, 3) := by decide +kernel
theorem dX3_brokenBits_21 : decode cX3_brokenBits 21 = .ok (.iload_n 1, 1) := by decide +kernel
theorem dX3_brokenBits_22 : decode cX3_brokenBits 22 = .ok (.iconst 1, 1) := by decide +kernel
theorem dX3_brokenBits_23 : decode cX3_brokenBits 23 = .ok (.iload_n 2, 1) := by decide +kernel
theorem dX3_brokenBits_24 : decode cX3_brokenBits 24 = .ok (.ishl, 1) := by decide +kernel
theorem dX3_brokenBits_25 : decode cX3_brokenBits 25 = .ok (.ior, 1) := by decide +kernel
theorem dX3_brokenBits_26 : decode cX3_brokenBits 26 = .ok (.istore_n 1, 1) := by decide +kernel
theorem dX3_brokenBits_27 : decode cX3_brokenBits 27 = .ok (.iinc 2 1, 3) := by decide +kernel
theorem dX3_brokenBits_30 : decode cX3_brokenBits 30 = .ok (.goto (-26), 3) := by decide +kernel
theorem dX3_brokenBits_33 : decode cX3_brokenBits 33 = .ok (.iload_n 1, 1) := by decide +kernel
theorem dX3_brokenBits_34 : decode cX3_brokenBits 34 = .ok (.ireturn, 1) := by decide +kernel
set_option maxHeartbeats 4000000 in
set_option maxRecDepth 100000 in
theorem s_X3_brokenBits (l : Launch) (dC : Nat → ClassId) (dI : Nat → Nat → Nat) (cI cZ cB cJ cM cG : ClassId) (a0 a1 a2 a3 a4 a5 a6 a7 : Nat) (i0 : Int32) (xF6 : Nat → Int32) (sz : Nat) (p_0 : (0 : Int) ≤ i0.toInt ∧ i0.toInt ≤ 24) (p_1 : rng xF6 24 0 1) : Met l yX3_brokenBits (kw yX3_brokenBits cX3_brokenBits 3 (some .int)) ({ frames := 0, cells := 0, slots := 0, locals := 0 } : Room) (va_Pc [.ref a0] (kPre dC dI [(cI, .int), (cZ, .boolean), (cB, .byte), (cJ, .long), (cM, .object RX2), (cG, .array .int)] [(a0, .inr (3, [.int i0, .ref a1, .ref a2, .ref a3, .ref a4, .ref a5, .ref a6, .ref a7])), (a7, .inl (cZ, 24, .inl xF6))] sz)) (va_Qi (fun (r : Int32) (u9 : Unit) => True) (fun u9 t => va_P (dC, dI) vwCl [(a0, .inr (3, [.int i0, .ref a1, .ref a2, .ref a3, .ref a4, .ref a5, .ref a6, .ref a7])), (a7, .inl (cZ, 24, .inl xF6))] t.heap ∧ va_D (va_A [(a0, .inr (3, [.int i0, .ref a1, .ref a2, .ref a3, .ref a4, .ref a5, .ref a6, .ref a7])), (a7, .inl (cZ, 24, .inl xF6))] sz) [(a0, .inr (3, [.int i0, .ref a1, .ref a2, .ref a3, .ref a4, .ref a5, .ref a6, .ref a7])), (a7, .inl (cZ, 24, .inl xF6))]) (va_A [(a0, .inr (3, [.int i0, .ref a1, .ref a2, .ref a3, .ref a4, .ref a5, .ref a6, .ref a7])), (a7, .inl (cZ, 24, .inl xF6))] sz)) 0 0 (va_A [(a0, .inr (3, [.int i0, .ref a1, .ref a2, .ref a3, .ref a4, .ref a5, .ref a6, .ref a7])), (a7, .inl (cZ, 24, .inl xF6))] sz) := by
  refine kEnter (by decide) (Nat.le_of_ble_eq_true rfl) ?_
  intro p e s m below meth c ls hx hb hr hml hown hlocks hin hwd hsz hP hK hD hl
  subst hsz
  generalize hAe : va_A [(a0, .inr (3, [.int i0, .ref a1, .ref a2, .ref a3, .ref a4, .ref a5, .ref a6, .ref a7])), (a7, .inl (cZ, 24, .inl xF6))] s.heap.size = A at hD ⊢
  have hA : ∀ q : Nat, s.heap.size ≤ q → A q := fun q h => by rw [← hAe]; exact Or.inr h
  have hS : va_S A s.heap s.heap [] := va_S.rf
  have hl : lv_has ls 3 [(0, .ref a0)] := hl
  obtain ⟨Q, hQ⟩ : ∃ Q, Q = MQ below (va_Qi (fun (r : Int32) (u9 : Unit) => True) (fun u9 t => va_P (dC, dI) vwCl [(a0, .inr (3, [.int i0, .ref a1, .ref a2, .ref a3, .ref a4, .ref a5, .ref a6, .ref a7])), (a7, .inl (cZ, 24, .inl xF6))] t.heap ∧ va_D A [(a0, .inr (3, [.int i0, .ref a1, .ref a2, .ref a3, .ref a4, .ref a5, .ref a6, .ref a7])), (a7, .inl (cZ, 24, .inl xF6))]) A) ([.ref a0] : List Value).toArray s 0 0 A := ⟨_, rfl⟩
  rw [← hQ]
  have k0 : (0 : Int32).toInt = 0 := by decide
  have k1 : (1 : Int32).toInt = 1 := by decide
  refine lv_iconst (v := 0) hx hb dX3_brokenBits_0 (by decide) ?_
  refine lv_istore_n (lv' := [(1, .int 0), (0, .ref a0)]) hx hb dX3_brokenBits_1 rfl hl (by decide) rfl (fun ls hl => ?_)
  refine lv_iconst (v := 0) hx hb dX3_brokenBits_2 (by decide) ?_
  refine lv_istore_n (lv' := [(2, .int 0), (1, .int 0), (0, .ref a0)]) hx hb dX3_brokenBits_3 rfl hl (by decide) rfl (fun ls hl => ?_)
  have lp1 : ∀ (d : Nat), ∀ (H : Heap) (locs : List Loc) (ls : Array Slot) (w1_1 : Int32) (w2_1 : Int32), ((0 : Int) ≤ w2_1.toInt ∧ w2_1.toInt ≤ 24) → (24 - w2_1.toInt).toNat < d → va_P (dC, dI) vwCl [(a0, .inr (3, [.int i0, .ref a1, .ref a2, .ref a3, .ref a4, .ref a5, .ref a6, .ref a7])), (a7, .inl (cZ, 24, .inl xF6))] H → va_D A [(a0, .inr (3, [.int i0, .ref a1, .ref a2, .ref a3, .ref a4, .ref a5, .ref a6, .ref a7])), (a7, .inl (cZ, 24, .inl xF6))] → va_S A s.heap H locs → lv_has ls 3 [(0, .ref a0), (1, .int w1_1), (2, .int w2_1)] → W p l e ({ frames := 0, cells := 0, slots := 0, locals := 0 } : Room) s m ([.ref a0] : List Value).toArray below meth c H locs 0 0 Q (F0 m 4 ls []) := by
    intro d
    induction d with
    | zero =>
      intro H locs ls w1_1 w2_1 hr_w2_1 hm hP hD hS hl
      omega
    | succ d ih1 =>
      intro H locs ls w1_1 w2_1 hr_w2_1 hm hP hD hS hl
      refine lv_iload_n hx hb dX3_brokenBits_4 rfl (lv_at hl 2 rfl) ?_
      refine lv_aload_n hx hb dX3_brokenBits_5 rfl (lv_at hl 0 rfl) ?_
      refine va_get (D := (dC, dI)) (ci := 3) (v := .int i0) (C := RX3) (T := TX3) (N := 8) hx hb hwd inlX3 hown hK hP 0 rfl rfl 0 (by decide) (hwd _ kr11_1) (fun _ h9 => h9) rfl dX3_brokenBits_6 ?_
      refine lv_icmp_ge (tgt := 33) hx hb dX3_brokenBits_9 (by decide) (fun c47 => ?_) (fun c47 => ?_)
      · rw [ki_le] at c47
        refine lv_iload_n hx hb dX3_brokenBits_33 rfl (lv_at hl 1 rfl) ?_
        have hP9 := hP.sub (ws' := [(a0, .inr (3, [.int i0, .ref a1, .ref a2, .ref a3, .ref a4, .ref a5, .ref a6, .ref a7])), (a7, .inl (cZ, 24, .inl xF6))]) [0, 1] rfl
        have hD9 := hD.sub (ws' := [(a0, .inr (3, [.int i0, .ref a1, .ref a2, .ref a3, .ref a4, .ref a5, .ref a6, .ref a7])), (a7, .inl (cZ, 24, .inl xF6))]) [0, 1] (by decide) rfl
        rw [hQ]
        exact W.iret (v := w1_1) hx hb hr (fun t ht hW => ⟨⟨w1_1, (), rfl, trivial, (by rw [ht]; exact hP9), hD9⟩, hS.F ht⟩) hS.2.2 dX3_brokenBits_34
      · rw [ki_le] at c47
        refine lv_aload_n hx hb dX3_brokenBits_12 rfl (lv_at hl 0 rfl) ?_
        refine va_get (D := (dC, dI)) (ci := 3) (v := .ref a7) (C := RX3) (T := TX3) (N := 8) hx hb hwd inlX3 hown hK hP 0 rfl rfl 7 (by decide) (hwd _ kr12_2) (fun _ h9 => h9) rfl dX3_brokenBits_13 ?_
        refine lv_iload_n hx hb dX3_brokenBits_16 rfl (lv_at hl 2 rfl) ?_
        have h48 : vp_in w2_1 24 := (vp_of (by omega) (by omega))
        refine va_zald hx hb hK hP 1 1 rfl rfl h48 dX3_brokenBits_17 ?_
        refine lv_topi (fun x49 ex49 => ?_)
        have tx49 : (0 : Int) ≤ x49.toInt ∧ x49.toInt ≤ 1 := by rw [ex49]; exact p_1 _ (vp_nat h48)
        refine lv_if_eq (tgt := 27) hx hb dX3_brokenBits_18 (by decide) (fun c50 => ?_) (fun c50 => ?_)
        · rw [ki_eq] at c50
          obtain ⟨x51, ex51⟩ : ∃ y : Int32, y = w2_1 + 1 := ⟨_, rfl⟩
          refine lv_iinc (v := x51) (lv' := [(2, .int x51), (0, .ref a0), (1, .int w1_1)]) hx hb dX3_brokenBits_27 hl (k := 2) rfl (by rw [ex51]; rfl) (by decide) rfl (fun ls hl => ?_)
          have tx51 := ia_add (a := w2_1) (b := (1 : Int32)) (by omega) (by omega)
          rw [← ex51] at tx51
          refine lv_goto (tgt := 4) hx hb dX3_brokenBits_30 (by decide) ?_
          exact ih1 _ _ ls w1_1 x51 (show (0 : Int) ≤ x51.toInt ∧ x51.toInt ≤ 24 from ⟨by omega, by omega⟩) (by omega) (hP.sub (ws' := [(a0, .inr (3, [.int i0, .ref a1, .ref a2, .ref a3, .ref a4, .ref a5, .ref a6, .ref a7])), (a7, .inl (cZ, 24, .inl xF6))]) [0, 1] rfl) (hD.sub (ws' := [(a0, .inr (3, [.int i0, .ref a1, .ref a2, .ref a3, .ref a4, .ref a5, .ref a6, .ref a7])), (a7, .inl (cZ, 24, .inl xF6))]) [0, 1] (by decide) rfl) hS (lv_sub hl [1, 2, 0] rfl)
        · rw [ki_eq] at c50
          refine lv_iload_n hx hb dX3_brokenBits_21 rfl (lv_at hl 1 rfl) ?_
          refine lv_iconst (v := 1) hx hb dX3_brokenBits_22 (by decide) ?_
          refine lv_iload_n hx hb dX3_brokenBits_23 rfl (lv_at hl 2 rfl) ?_
          refine lv_ishl hx hb dX3_brokenBits_24 ?_
          refine lv_topi (fun x52 ex52 => ?_)
          refine lv_ior hx hb dX3_brokenBits_25 ?_
          refine lv_topi (fun x53 ex53 => ?_)
          refine lv_istore_n (lv' := [(1, .int x53), (0, .ref a0), (2, .int w2_1)]) hx hb dX3_brokenBits_26 rfl hl (by decide) rfl (fun ls hl => ?_)
          obtain ⟨x54, ex54⟩ : ∃ y : Int32, y = w2_1 + 1 := ⟨_, rfl⟩
          refine lv_iinc (v := x54) (lv' := [(2, .int x54), (1, .int x53), (0, .ref a0)]) hx hb dX3_brokenBits_27 hl (k := 2) rfl (by rw [ex54]; rfl) (by decide) rfl (fun ls hl => ?_)
          have tx54 := ia_add (a := w2_1) (b := (1 : Int32)) (by omega) (by omega)
          rw [← ex54] at tx54
          refine lv_goto (tgt := 4) hx hb dX3_brokenBits_30 (by decide) ?_
          exact ih1 _ _ ls x53 x54 (show (0 : Int) ≤ x54.toInt ∧ x54.toInt ≤ 24 from ⟨by omega, by omega⟩) (by omega) (hP.sub (ws' := [(a0, .inr (3, [.int i0, .ref a1, .ref a2, .ref a3, .ref a4, .ref a5, .ref a6, .ref a7])), (a7, .inl (cZ, 24, .inl xF6))]) [0, 1] rfl) (hD.sub (ws' := [(a0, .inr (3, [.int i0, .ref a1, .ref a2, .ref a3, .ref a4, .ref a5, .ref a6, .ref a7])), (a7, .inl (cZ, 24, .inl xF6))]) [0, 1] (by decide) rfl) hS (lv_sub hl [2, 1, 0] rfl)
  exact lp1 _ _ _ ls (0) (0) (show (0 : Int) ≤ (0 : Int32).toInt ∧ (0 : Int32).toInt ≤ 24 from ⟨by omega, by omega⟩) (Nat.lt_succ_self _) (hP.sub (ws' := [(a0, .inr (3, [.int i0, .ref a1, .ref a2, .ref a3, .ref a4, .ref a5, .ref a6, .ref a7])), (a7, .inl (cZ, 24, .inl xF6))]) [0, 1] rfl) (hD.sub (ws' := [(a0, .inr (3, [.int i0, .ref a1, .ref a2, .ref a3, .ref a4, .ref a5, .ref a6, .ref a7])), (a7, .inl (cZ, 24, .inl xF6))]) [0, 1] (by decide) rfl) hS (lv_sub hl [2, 1, 0] rfl)
theorem dX3_wornTogether_0 : decode cX3_wornTogether 0 = .ok (.iconst 0, 1) := by decide +kernel
theorem dX3_wornTogether_1 : decode cX3_wornTogether 1 = .ok (.istore_n 1, 1) := by decide +kernel
theorem dX3_wornTogether_2 : decode cX3_wornTogether 2 = .ok (.iconst 0, 1) := by decide +kernel
theorem dX3_wornTogether_3 : decode cX3_wornTogether 3 = .ok (.istore_n 2, 1) := by decide +kernel
theorem dX3_wornTogether_4 : decode cX3_wornTogether 4 = .ok (.iload_n 2, 1) := by decide +kernel
theorem dX3_wornTogether_5 : decode cX3_wornTogether 5 = .ok (.aload_n 0, 1) := by decide +kernel
theorem dX3_wornTogether_6 : decode cX3_wornTogether 6 = .ok (.getfield 34, 3) := by decide +kernel
theorem dX3_wornTogether_9 : decode cX3_wornTogether 9 = .ok (.if_icmp .ge 18, 3) := by decide +kernel
theorem dX3_wornTogether_12 : decode cX3_wornTogether 12 = .ok (.iload_n 1, 1) := by decide +kernel
theorem dX3_wornTogether_13 : decode cX3_wornTogether 13 = .ok (.aload_n 0, 1) := by decide +kernel
theorem dX3_wornTogether_14 : decode cX3_wornTogether 14 = .ok (.getfield 27, 3) := by decide +kernel
theorem dX3_wornTogether_17 : decode cX3_wornTogether 17 = .ok (.iload_n 2, 1) := by decide +kernel
theorem dX3_wornTogether_18 : decode cX3_wornTogether 18 = .ok (.iaload, 1) := by decide +kernel
theorem dX3_wornTogether_19 : decode cX3_wornTogether 19 = .ok (.iadd, 1) := by decide +kernel
theorem dX3_wornTogether_20 : decode cX3_wornTogether 20 = .ok (.istore_n 1, 1) := by decide +kernel
theorem dX3_wornTogether_21 : decode cX3_wornTogether 21 = .ok (.iinc 2 1, 3) := by decide +kernel
theorem dX3_wornTogether_24 : decode cX3_wornTogether 24 = .ok (.goto (-20), 3) := by decide +kernel
theorem dX3_wornTogether_27 : decode cX3_wornTogether 27 = .ok (.iload_n 1, 1) := by decide +kernel
theorem dX3_wornTogether_28 : decode cX3_wornTogether 28 = .ok (.ireturn, 1) := by decide +kernel
set_option maxHeartbeats 4000000 in
set_option maxRecDepth 100000 in
theorem s_X3_wornTogether (l : Launch) (dC : Nat → ClassId) (dI : Nat → Nat → Nat) (cI cZ cB cJ cM cG : ClassId) (a0 a1 a2 a3 a4 a5 a6 a7 : Nat) (i0 : Int32) (xF5 : Nat → Int32) (sz : Nat) (p_0 : (0 : Int) ≤ i0.toInt ∧ i0.toInt ≤ 24) : Met l yX3_wornTogether (kw yX3_wornTogether cX3_wornTogether 3 (some .int)) ({ frames := 0, cells := 0, slots := 0, locals := 0 } : Room) (va_Pc [.ref a0] (kPre dC dI [(cI, .int), (cZ, .boolean), (cB, .byte), (cJ, .long), (cM, .object RX2), (cG, .array .int)] [(a0, .inr (3, [.int i0, .ref a1, .ref a2, .ref a3, .ref a4, .ref a5, .ref a6, .ref a7])), (a6, .inl (cI, 24, .inl xF5))] sz)) (va_Qi (fun (r : Int32) (u9 : Unit) => True) (fun u9 t => va_P (dC, dI) vwCl [(a0, .inr (3, [.int i0, .ref a1, .ref a2, .ref a3, .ref a4, .ref a5, .ref a6, .ref a7])), (a6, .inl (cI, 24, .inl xF5))] t.heap ∧ va_D (va_A [(a0, .inr (3, [.int i0, .ref a1, .ref a2, .ref a3, .ref a4, .ref a5, .ref a6, .ref a7])), (a6, .inl (cI, 24, .inl xF5))] sz) [(a0, .inr (3, [.int i0, .ref a1, .ref a2, .ref a3, .ref a4, .ref a5, .ref a6, .ref a7])), (a6, .inl (cI, 24, .inl xF5))]) (va_A [(a0, .inr (3, [.int i0, .ref a1, .ref a2, .ref a3, .ref a4, .ref a5, .ref a6, .ref a7])), (a6, .inl (cI, 24, .inl xF5))] sz)) 0 0 (va_A [(a0, .inr (3, [.int i0, .ref a1, .ref a2, .ref a3, .ref a4, .ref a5, .ref a6, .ref a7])), (a6, .inl (cI, 24, .inl xF5))] sz) := by
  refine kEnter (by decide) (Nat.le_of_ble_eq_true rfl) ?_
  intro p e s m below meth c ls hx hb hr hml hown hlocks hin hwd hsz hP hK hD hl
  subst hsz
  generalize hAe : va_A [(a0, .inr (3, [.int i0, .ref a1, .ref a2, .ref a3, .ref a4, .ref a5, .ref a6, .ref a7])), (a6, .inl (cI, 24, .inl xF5))] s.heap.size = A at hD ⊢
  have hA : ∀ q : Nat, s.heap.size ≤ q → A q := fun q h => by rw [← hAe]; exact Or.inr h
  have hS : va_S A s.heap s.heap [] := va_S.rf
  have hl : lv_has ls 3 [(0, .ref a0)] := hl
  obtain ⟨Q, hQ⟩ : ∃ Q, Q = MQ below (va_Qi (fun (r : Int32) (u9 : Unit) => True) (fun u9 t => va_P (dC, dI) vwCl [(a0, .inr (3, [.int i0, .ref a1, .ref a2, .ref a3, .ref a4, .ref a5, .ref a6, .ref a7])), (a6, .inl (cI, 24, .inl xF5))] t.heap ∧ va_D A [(a0, .inr (3, [.int i0, .ref a1, .ref a2, .ref a3, .ref a4, .ref a5, .ref a6, .ref a7])), (a6, .inl (cI, 24, .inl xF5))]) A) ([.ref a0] : List Value).toArray s 0 0 A := ⟨_, rfl⟩
  rw [← hQ]
  have k0 : (0 : Int32).toInt = 0 := by decide
  have k1 : (1 : Int32).toInt = 1 := by decide
  refine lv_iconst (v := 0) hx hb dX3_wornTogether_0 (by decide) ?_
  refine lv_istore_n (lv' := [(1, .int 0), (0, .ref a0)]) hx hb dX3_wornTogether_1 rfl hl (by decide) rfl (fun ls hl => ?_)
  refine lv_iconst (v := 0) hx hb dX3_wornTogether_2 (by decide) ?_
  refine lv_istore_n (lv' := [(2, .int 0), (1, .int 0), (0, .ref a0)]) hx hb dX3_wornTogether_3 rfl hl (by decide) rfl (fun ls hl => ?_)
  have lp1 : ∀ (d : Nat), ∀ (H : Heap) (locs : List Loc) (ls : Array Slot) (w1_1 : Int32) (w2_1 : Int32), ((0 : Int) ≤ w2_1.toInt ∧ w2_1.toInt ≤ 24) → (24 - w2_1.toInt).toNat < d → va_P (dC, dI) vwCl [(a0, .inr (3, [.int i0, .ref a1, .ref a2, .ref a3, .ref a4, .ref a5, .ref a6, .ref a7])), (a6, .inl (cI, 24, .inl xF5))] H → va_D A [(a0, .inr (3, [.int i0, .ref a1, .ref a2, .ref a3, .ref a4, .ref a5, .ref a6, .ref a7])), (a6, .inl (cI, 24, .inl xF5))] → va_S A s.heap H locs → lv_has ls 3 [(0, .ref a0), (1, .int w1_1), (2, .int w2_1)] → W p l e ({ frames := 0, cells := 0, slots := 0, locals := 0 } : Room) s m ([.ref a0] : List Value).toArray below meth c H locs 0 0 Q (F0 m 4 ls []) := by
    intro d
    induction d with
    | zero =>
      intro H locs ls w1_1 w2_1 hr_w2_1 hm hP hD hS hl
      omega
    | succ d ih1 =>
      intro H locs ls w1_1 w2_1 hr_w2_1 hm hP hD hS hl
      refine lv_iload_n hx hb dX3_wornTogether_4 rfl (lv_at hl 2 rfl) ?_
      refine lv_aload_n hx hb dX3_wornTogether_5 rfl (lv_at hl 0 rfl) ?_
      refine va_get (D := (dC, dI)) (ci := 3) (v := .int i0) (C := RX3) (T := TX3) (N := 8) hx hb hwd inlX3 hown hK hP 0 rfl rfl 0 (by decide) (hwd _ kr11_1) (fun _ h9 => h9) rfl dX3_wornTogether_6 ?_
      refine lv_icmp_ge (tgt := 27) hx hb dX3_wornTogether_9 (by decide) (fun c31 => ?_) (fun c31 => ?_)
      · rw [ki_le] at c31
        refine lv_iload_n hx hb dX3_wornTogether_27 rfl (lv_at hl 1 rfl) ?_
        have hP9 := hP.sub (ws' := [(a0, .inr (3, [.int i0, .ref a1, .ref a2, .ref a3, .ref a4, .ref a5, .ref a6, .ref a7])), (a6, .inl (cI, 24, .inl xF5))]) [0, 1] rfl
        have hD9 := hD.sub (ws' := [(a0, .inr (3, [.int i0, .ref a1, .ref a2, .ref a3, .ref a4, .ref a5, .ref a6, .ref a7])), (a6, .inl (cI, 24, .inl xF5))]) [0, 1] (by decide) rfl
        rw [hQ]
        exact W.iret (v := w1_1) hx hb hr (fun t ht hW => ⟨⟨w1_1, (), rfl, trivial, (by rw [ht]; exact hP9), hD9⟩, hS.F ht⟩) hS.2.2 dX3_wornTogether_28
      · rw [ki_le] at c31
        refine lv_iload_n hx hb dX3_wornTogether_12 rfl (lv_at hl 1 rfl) ?_
        refine lv_aload_n hx hb dX3_wornTogether_13 rfl (lv_at hl 0 rfl) ?_
        refine va_get (D := (dC, dI)) (ci := 3) (v := .ref a6) (C := RX3) (T := TX3) (N := 8) hx hb hwd inlX3 hown hK hP 0 rfl rfl 6 (by decide) (hwd _ kr11_23) (fun _ h9 => h9) rfl dX3_wornTogether_14 ?_
        refine lv_iload_n hx hb dX3_wornTogether_17 rfl (lv_at hl 2 rfl) ?_
        have h32 : vp_in w2_1 24 := (vp_of (by omega) (by omega))
        refine va_iald hx hb hK hP 1 0 rfl rfl h32 dX3_wornTogether_18 ?_
        refine lv_topi (fun x33 ex33 => ?_)
        refine lv_iadd hx hb dX3_wornTogether_19 ?_
        refine lv_topi (fun x34 ex34 => ?_)
        refine lv_istore_n (lv' := [(1, .int x34), (0, .ref a0), (2, .int w2_1)]) hx hb dX3_wornTogether_20 rfl hl (by decide) rfl (fun ls hl => ?_)
        obtain ⟨x35, ex35⟩ : ∃ y : Int32, y = w2_1 + 1 := ⟨_, rfl⟩
        refine lv_iinc (v := x35) (lv' := [(2, .int x35), (1, .int x34), (0, .ref a0)]) hx hb dX3_wornTogether_21 hl (k := 2) rfl (by rw [ex35]; rfl) (by decide) rfl (fun ls hl => ?_)
        have tx35 := ia_add (a := w2_1) (b := (1 : Int32)) (by omega) (by omega)
        rw [← ex35] at tx35
        refine lv_goto (tgt := 4) hx hb dX3_wornTogether_24 (by decide) ?_
        exact ih1 _ _ ls x34 x35 (show (0 : Int) ≤ x35.toInt ∧ x35.toInt ≤ 24 from ⟨by omega, by omega⟩) (by omega) (hP.sub (ws' := [(a0, .inr (3, [.int i0, .ref a1, .ref a2, .ref a3, .ref a4, .ref a5, .ref a6, .ref a7])), (a6, .inl (cI, 24, .inl xF5))]) [0, 1] rfl) (hD.sub (ws' := [(a0, .inr (3, [.int i0, .ref a1, .ref a2, .ref a3, .ref a4, .ref a5, .ref a6, .ref a7])), (a6, .inl (cI, 24, .inl xF5))]) [0, 1] (by decide) rfl) hS (lv_sub hl [2, 1, 0] rfl)
  exact lp1 _ _ _ ls (0) (0) (show (0 : Int) ≤ (0 : Int32).toInt ∧ (0 : Int32).toInt ≤ 24 from ⟨by omega, by omega⟩) (Nat.lt_succ_self _) (hP.sub (ws' := [(a0, .inr (3, [.int i0, .ref a1, .ref a2, .ref a3, .ref a4, .ref a5, .ref a6, .ref a7])), (a6, .inl (cI, 24, .inl xF5))]) [0, 1] rfl) (hD.sub (ws' := [(a0, .inr (3, [.int i0, .ref a1, .ref a2, .ref a3, .ref a4, .ref a5, .ref a6, .ref a7])), (a6, .inl (cI, 24, .inl xF5))]) [0, 1] (by decide) rfl) hS (lv_sub hl [2, 1, 0] rfl)
theorem dX3_heightOf_0 : decode cX3_heightOf 0 = .ok (.aload_n 0, 1) := by decide +kernel
theorem dX3_heightOf_1 : decode cX3_heightOf 1 = .ok (.getfield 30, 3) := by decide +kernel
theorem dX3_heightOf_4 : decode cX3_heightOf 4 = .ok (.iload_n 1, 1) := by decide +kernel
theorem dX3_heightOf_5 : decode cX3_heightOf 5 = .ok (.baload, 1) := by decide +kernel
theorem dX3_heightOf_6 : decode cX3_heightOf 6 = .ok (.ifCond .eq 7, 3) := by decide +kernel
theorem dX3_heightOf_9 : decode cX3_heightOf 9 = .ok (.iconst 0, 1) := by decide +kernel
theorem dX3_heightOf_10 : decode cX3_heightOf 10 = .ok (.goto 15, 3) := by decide +kernel
theorem dX3_heightOf_13 : decode cX3_heightOf 13 = .ok (.iconst 0, 1) := by decide +kernel
theorem dX3_heightOf_14 : decode cX3_heightOf 14 = .ok (.aload_n 0, 1) := by decide +kernel
theorem dX3_heightOf_15 : decode cX3_heightOf 15 = .ok (.getfield 21, 3) := by decide +kernel
theorem dX3_heightOf_18 : decode cX3_heightOf 18 = .ok (.iload_n 1, 1) := by decide +kernel
theorem dX3_heightOf_19 : decode cX3_heightOf 19 = .ok (.iaload, 1) := by decide +kernel
theorem dX3_heightOf_20 : decode cX3_heightOf 20 = .ok (.iload_n 2, 1) := by decide +kernel
theorem dX3_heightOf_21 : decode cX3_heightOf 21 = .ok (.isub, 1) := by decide +kernel
theorem dX3_heightOf_22 : decode cX3_heightOf 22 = .ok (.invokestatic 67, 3) := by decide +kernel
theorem dX3_heightOf_25 : decode cX3_heightOf 25 = .ok (.ireturn, 1) := by decide +kernel
set_option maxHeartbeats 4000000 in
set_option maxRecDepth 100000 in
theorem s_X3_heightOf (l : Launch) (dC : Nat → ClassId) (dI : Nat → Nat → Nat) (cI cZ cB cJ cM cG : ClassId) (a0 a1 a2 a3 a4 a5 a6 a7 : Nat) (i0 : Int32) (xF3 xF6 : Nat → Int32) (p0 p1 : Int32) (sz : Nat) (p_0 : (0 : Int) ≤ i0.toInt ∧ i0.toInt ≤ 24) (p_1 : rng xF3 24 0 60) (p_2 : rng xF6 24 0 1) (p_3 : (0 : Int) ≤ p0.toInt ∧ p0.toInt ≤ 23) : Met l yX3_heightOf (kw yX3_heightOf cX3_heightOf 3 (some .int)) ({ frames := 1, cells := 0, slots := 0, locals := 24 } : Room) (va_Pc [.ref a0, .int p0, .int p1] (kPre dC dI [(cI, .int), (cZ, .boolean), (cB, .byte), (cJ, .long), (cM, .object RX2), (cG, .array .int)] [(a0, .inr (3, [.int i0, .ref a1, .ref a2, .ref a3, .ref a4, .ref a5, .ref a6, .ref a7])), (a4, .inl (cI, 24, .inl xF3)), (a7, .inl (cZ, 24, .inl xF6))] sz)) (va_Qi (fun (r : Int32) (u9 : Unit) => ((0 : Int) ≤ r.toInt ∧ r.toInt ≤ 2147483647) ∧ True) (fun u9 t => va_P (dC, dI) vwCl [(a0, .inr (3, [.int i0, .ref a1, .ref a2, .ref a3, .ref a4, .ref a5, .ref a6, .ref a7])), (a4, .inl (cI, 24, .inl xF3)), (a7, .inl (cZ, 24, .inl xF6))] t.heap ∧ va_D (va_A [(a0, .inr (3, [.int i0, .ref a1, .ref a2, .ref a3, .ref a4, .ref a5, .ref a6, .ref a7])), (a4, .inl (cI, 24, .inl xF3)), (a7, .inl (cZ, 24, .inl xF6))] sz) [(a0, .inr (3, [.int i0, .ref a1, .ref a2, .ref a3, .ref a4, .ref a5, .ref a6, .ref a7])), (a4, .inl (cI, 24, .inl xF3)), (a7, .inl (cZ, 24, .inl xF6))]) (va_A [(a0, .inr (3, [.int i0, .ref a1, .ref a2, .ref a3, .ref a4, .ref a5, .ref a6, .ref a7])), (a4, .inl (cI, 24, .inl xF3)), (a7, .inl (cZ, 24, .inl xF6))] sz)) 0 0 (va_A [(a0, .inr (3, [.int i0, .ref a1, .ref a2, .ref a3, .ref a4, .ref a5, .ref a6, .ref a7])), (a4, .inl (cI, 24, .inl xF3)), (a7, .inl (cZ, 24, .inl xF6))] sz) := by
  refine kEnter (by decide) (Nat.le_of_ble_eq_true rfl) ?_
  intro p e s m below meth c ls hx hb hr hml hown hlocks hin hwd hsz hP hK hD hl
  subst hsz
  generalize hAe : va_A [(a0, .inr (3, [.int i0, .ref a1, .ref a2, .ref a3, .ref a4, .ref a5, .ref a6, .ref a7])), (a4, .inl (cI, 24, .inl xF3)), (a7, .inl (cZ, 24, .inl xF6))] s.heap.size = A at hD ⊢
  have hA : ∀ q : Nat, s.heap.size ≤ q → A q := fun q h => by rw [← hAe]; exact Or.inr h
  have hS : va_S A s.heap s.heap [] := va_S.rf
  have hl : lv_has ls 3 [(0, .ref a0), (1, .int p0), (2, .int p1)] := hl
  obtain ⟨Q, hQ⟩ : ∃ Q, Q = MQ below (va_Qi (fun (r : Int32) (u9 : Unit) => ((0 : Int) ≤ r.toInt ∧ r.toInt ≤ 2147483647) ∧ True) (fun u9 t => va_P (dC, dI) vwCl [(a0, .inr (3, [.int i0, .ref a1, .ref a2, .ref a3, .ref a4, .ref a5, .ref a6, .ref a7])), (a4, .inl (cI, 24, .inl xF3)), (a7, .inl (cZ, 24, .inl xF6))] t.heap ∧ va_D A [(a0, .inr (3, [.int i0, .ref a1, .ref a2, .ref a3, .ref a4, .ref a5, .ref a6, .ref a7])), (a4, .inl (cI, 24, .inl xF3)), (a7, .inl (cZ, 24, .inl xF6))]) A) ([.ref a0, .int p0, .int p1] : List Value).toArray s 0 0 A := ⟨_, rfl⟩
  rw [← hQ]
  have k0 : (0 : Int32).toInt = 0 := by decide
  refine lv_aload_n hx hb dX3_heightOf_0 rfl (lv_at hl 0 rfl) ?_
  refine va_get (D := (dC, dI)) (ci := 3) (v := .ref a7) (C := RX3) (T := TX3) (N := 8) hx hb hwd inlX3 hown hK hP 0 rfl rfl 7 (by decide) (hwd _ kr12_2) (fun _ h9 => h9) rfl dX3_heightOf_1 ?_
  refine lv_iload_n hx hb dX3_heightOf_4 rfl (lv_at hl 1 rfl) ?_
  have h1 : vp_in p0 24 := (vp_of (by omega) (by omega))
  refine va_zald hx hb hK hP 2 1 rfl rfl h1 dX3_heightOf_5 ?_
  refine lv_topi (fun x2 ex2 => ?_)
  have tx2 : (0 : Int) ≤ x2.toInt ∧ x2.toInt ≤ 1 := by rw [ex2]; exact p_2 _ (vp_nat h1)
  refine lv_if_eq (tgt := 13) hx hb dX3_heightOf_6 (by decide) (fun c3 => ?_) (fun c3 => ?_)
  · rw [ki_eq] at c3
    refine lv_iconst (v := 0) hx hb dX3_heightOf_13 (by decide) ?_
    refine lv_aload_n hx hb dX3_heightOf_14 rfl (lv_at hl 0 rfl) ?_
    refine va_get (D := (dC, dI)) (ci := 3) (v := .ref a4) (C := RX3) (T := TX3) (N := 8) hx hb hwd inlX3 hown hK hP 0 rfl rfl 4 (by decide) (hwd _ kr11_16) (fun _ h9 => h9) rfl dX3_heightOf_15 ?_
    refine lv_iload_n hx hb dX3_heightOf_18 rfl (lv_at hl 1 rfl) ?_
    have h4 : vp_in p0 24 := (vp_of (by omega) (by omega))
    refine va_iald hx hb hK hP 1 0 rfl rfl h4 dX3_heightOf_19 ?_
    refine lv_topi (fun x5 ex5 => ?_)
    have tx5 : (0 : Int) ≤ x5.toInt ∧ x5.toInt ≤ 60 := by rw [ex5]; exact p_1 _ (vp_nat h4)
    refine lv_iload_n hx hb dX3_heightOf_20 rfl (lv_at hl 2 rfl) ?_
    refine lv_isub hx hb dX3_heightOf_21 ?_
    refine lv_topi (fun x6 ex6 => ?_)
    refine va_mmax hx hb (by rw [hml]; exact hl.1.symm) hown (hwd _ kr24_16) (hwd _ kr24_17) (hwd _ kr6_4) (hwd _ kr24_18) (Nat.le_of_ble_eq_true rfl) (Nat.le_of_ble_eq_true rfl) (Nat.le_of_ble_eq_true rfl) (Nat.le_of_ble_eq_true rfl) dX3_heightOf_22 ?_
    refine lv_topi (fun x7 ex7 => ?_)
    have tx7 := mx_max (0 : Int32) x6
    rw [← ex7] at tx7
    have hP9 := hP.sub (ws' := [(a0, .inr (3, [.int i0, .ref a1, .ref a2, .ref a3, .ref a4, .ref a5, .ref a6, .ref a7])), (a4, .inl (cI, 24, .inl xF3)), (a7, .inl (cZ, 24, .inl xF6))]) [0, 1, 2] rfl
    have hD9 := hD.sub (ws' := [(a0, .inr (3, [.int i0, .ref a1, .ref a2, .ref a3, .ref a4, .ref a5, .ref a6, .ref a7])), (a4, .inl (cI, 24, .inl xF3)), (a7, .inl (cZ, 24, .inl xF6))]) [0, 1, 2] (by decide) rfl
    rw [hQ]
    exact W.iret (v := x7) hx hb hr (fun t ht hW => ⟨⟨x7, (), rfl, ⟨(show (0 : Int) ≤ x7.toInt ∧ x7.toInt ≤ 2147483647 from ⟨by omega, i32_hi⟩), trivial⟩, (by rw [ht]; exact hP9), hD9⟩, hS.F ht⟩) hS.2.2 dX3_heightOf_25
  · rw [ki_eq] at c3
    refine lv_iconst (v := 0) hx hb dX3_heightOf_9 (by decide) ?_
    refine lv_goto (tgt := 25) hx hb dX3_heightOf_10 (by decide) ?_
    have hP9 := hP.sub (ws' := [(a0, .inr (3, [.int i0, .ref a1, .ref a2, .ref a3, .ref a4, .ref a5, .ref a6, .ref a7])), (a4, .inl (cI, 24, .inl xF3)), (a7, .inl (cZ, 24, .inl xF6))]) [0, 1, 2] rfl
    have hD9 := hD.sub (ws' := [(a0, .inr (3, [.int i0, .ref a1, .ref a2, .ref a3, .ref a4, .ref a5, .ref a6, .ref a7])), (a4, .inl (cI, 24, .inl xF3)), (a7, .inl (cZ, 24, .inl xF6))]) [0, 1, 2] (by decide) rfl
    rw [hQ]
    exact W.iret (v := 0) hx hb hr (fun t ht hW => ⟨⟨0, (), rfl, ⟨(show (0 : Int) ≤ (0 : Int32).toInt ∧ (0 : Int32).toInt ≤ 2147483647 from ⟨by omega, i32_hi⟩), trivial⟩, (by rw [ht]; exact hP9), hD9⟩, hS.F ht⟩) hS.2.2 dX3_heightOf_25
theorem dX3_passYear_0 : decode cX3_passYear 0 = .ok (.lload_n 2, 1) := by decide +kernel
theorem dX3_passYear_1 : decode cX3_passYear 1 = .ok (.lstore 5, 2) := by decide +kernel
theorem dX3_passYear_3 : decode cX3_passYear 3 = .ok (.iconst 0, 1) := by decide +kernel
theorem dX3_passYear_4 : decode cX3_passYear 4 = .ok (.istore 7, 2) := by decide +kernel
theorem dX3_passYear_6 : decode cX3_passYear 6 = .ok (.iload 7, 2) := by decide +kernel
theorem dX3_passYear_8 : decode cX3_passYear 8 = .ok (.aload_n 0, 1) := by decide +kernel
theorem dX3_passYear_9 : decode cX3_passYear 9 = .ok (.getfield 34, 3) := by decide +kernel
theorem dX3_passYear_12 : decode cX3_passYear 12 = .ok (.if_icmp .ge 64, 3) := by decide +kernel
theorem dX3_passYear_15 : decode cX3_passYear 15 = .ok (.ldc2_w 72, 3) := by decide +kernel
theorem dX3_passYear_18 : decode cX3_passYear 18 = .ok (.lload 5, 2) := by decide +kernel
theorem dX3_passYear_20 : decode cX3_passYear 20 = .ok (.lmul, 1) := by decide +kernel
theorem dX3_passYear_21 : decode cX3_passYear 21 = .ok (.ldc2_w 74, 3) := by decide +kernel
theorem dX3_passYear_24 : decode cX3_passYear 24 = .ok (.ladd, 1) := by decide +kernel
theorem dX3_passYear_25 : decode cX3_passYear 25 = .ok (.ldc2_w 76, 3) := by decide +kernel
theorem dX3_passYear_28 : decode cX3_passYear 28 = .ok (.land, 1) := by decide +kernel
theorem dX3_passYear_29 : decode cX3_passYear 29 = .ok (.lstore 5, 2) := by decide +kernel
theorem dX3_passYear_31 : decode cX3_passYear 31 = .ok (.lload 5, 2) := by decide +kernel
theorem dX3_passYear_33 : decode cX3_passYear 33 = .ok (.ldc2_w 78, 3) := by decide +kernel
theorem dX3_passYear_36 : decode cX3_passYear 36 = .ok (.ldiv, 1) := by decide +kernel
theorem dX3_passYear_37 : decode cX3_passYear 37 = .ok (.ldc2_w 80, 3) := by decide +kernel
theorem dX3_passYear_40 : decode cX3_passYear 40 = .ok (.lrem, 1) := by decide +kernel
theorem dX3_passYear_41 : decode cX3_passYear 41 = .ok (.iload 4, 2) := by decide +kernel
theorem dX3_passYear_43 : decode cX3_passYear 43 = .ok (.i2l, 1) := by decide +kernel
theorem dX3_passYear_44 : decode cX3_passYear 44 = .ok (.lcmp, 1) := by decide +kernel
theorem dX3_passYear_45 : decode cX3_passYear 45 = .ok (.ifCond .ge 25, 3) := by decide +kernel
theorem dX3_passYear_48 : decode cX3_passYear 48 = .ok (.aload_n 1, 1) := by decide +kernel
theorem dX3_passYear_49 : decode cX3_passYear 49 = .ok (.iload 7, 2) := by decide +kernel
theorem dX3_passYear_51 : decode cX3_passYear 51 = .ok (.iaload, 1) := by decide +kernel
theorem dX3_passYear_52 : decode cX3_passYear 52 = .ok (.aload_n 0, 1) := by decide +kernel
theorem dX3_passYear_53 : decode cX3_passYear 53 = .ok (.getfield 21, 3) := by decide +kernel
theorem dX3_passYear_56 : decode cX3_passYear 56 = .ok (.iload 7, 2) := by decide +kernel
theorem dX3_passYear_58 : decode cX3_passYear 58 = .ok (.iaload, 1) := by decide +kernel
theorem dX3_passYear_59 : decode cX3_passYear 59 = .ok (.if_icmp .ge 11, 3) := by decide +kernel
theorem dX3_passYear_62 : decode cX3_passYear 62 = .ok (.aload_n 1, 1) := by decide +kernel
theorem dX3_passYear_63 : decode cX3_passYear 63 = .ok (.iload 7, 2) := by decide +kernel
theorem dX3_passYear_65 : decode cX3_passYear 65 = .ok (.dup2, 1) := by decide +kernel
theorem dX3_passYear_66 : decode cX3_passYear 66 = .ok (.iaload, 1) := by decide +kernel
theorem dX3_passYear_67 : decode cX3_passYear 67 = .ok (.iconst 1, 1) := by decide +kernel
theorem dX3_passYear_68 : decode cX3_passYear 68 = .ok (.iadd, 1) := by decide +kernel
theorem dX3_passYear_69 : decode cX3_passYear 69 = .ok (.iastore, 1) := by decide +kernel
theorem dX3_passYear_70 : decode cX3_passYear 70 = .ok (.iinc 7 1, 3) := by decide +kernel
theorem dX3_passYear_73 : decode cX3_passYear 73 = .ok (.goto (-67), 3) := by decide +kernel
theorem dX3_passYear_76 : decode cX3_passYear 76 = .ok (.lload 5, 2) := by decide +kernel
theorem dX3_passYear_78 : decode cX3_passYear 78 = .ok (.lreturn, 1) := by decide +kernel
set_option maxHeartbeats 4000000 in
set_option maxRecDepth 100000 in
theorem s_X3_passYear (l : Launch) (dC : Nat → ClassId) (dI : Nat → Nat → Nat) (cI cZ cB cJ cM cG : ClassId) (a0 a1 a2 a3 a4 a5 a6 a7 a8 : Nat) (i0 : Int32) (xF3 xF7 : Nat → Int32) (p2 : Int32) (y1 : Int64) (sz : Nat) (p_0 : (0 : Int) ≤ i0.toInt ∧ i0.toInt ≤ 24) (p_1 : rng xF3 24 0 60) : Met l yX3_passYear (kw yX3_passYear cX3_passYear 8 (some .long)) ({ frames := 0, cells := 0, slots := 0, locals := 0 } : Room) (va_Pc [.ref a0, .ref a8, .long y1, .int p2] (kPre dC dI [(cI, .int), (cZ, .boolean), (cB, .byte), (cJ, .long), (cM, .object RX2), (cG, .array .int)] [(a0, .inr (3, [.int i0, .ref a1, .ref a2, .ref a3, .ref a4, .ref a5, .ref a6, .ref a7])), (a4, .inl (cI, 24, .inl xF3)), (a8, .inl (cI, 24, .inl xF7))] sz)) (va_Ql (fun (r : Int64) (u9 : (Nat → Int32) × (Nat → Nat → Int32) × (Nat → Nat → Int64)) => True) (fun u9 t => va_P (dC, dI) vwCl [(a0, .inr (3, [.int i0, .ref a1, .ref a2, .ref a3, .ref a4, .ref a5, .ref a6, .ref a7])), (a4, .inl (cI, 24, .inl xF3)), (a8, .inl (cI, 24, .inl (u9.2.1 0)))] t.heap ∧ va_D (va_A [(a0, .inr (3, [.int i0, .ref a1, .ref a2, .ref a3, .ref a4, .ref a5, .ref a6, .ref a7])), (a4, .inl (cI, 24, .inl xF3)), (a8, .inl (cI, 24, .inl xF7))] sz) [(a0, .inr (3, [.int i0, .ref a1, .ref a2, .ref a3, .ref a4, .ref a5, .ref a6, .ref a7])), (a4, .inl (cI, 24, .inl xF3)), (a8, .inl (cI, 24, .inl (u9.2.1 0)))]) (va_A [(a0, .inr (3, [.int i0, .ref a1, .ref a2, .ref a3, .ref a4, .ref a5, .ref a6, .ref a7])), (a4, .inl (cI, 24, .inl xF3)), (a8, .inl (cI, 24, .inl xF7))] sz)) 0 0 (va_A [(a0, .inr (3, [.int i0, .ref a1, .ref a2, .ref a3, .ref a4, .ref a5, .ref a6, .ref a7])), (a4, .inl (cI, 24, .inl xF3)), (a8, .inl (cI, 24, .inl xF7))] sz) := by
  refine kEnter (by decide) (Nat.le_of_ble_eq_true rfl) ?_
  intro p e s m below meth c ls hx hb hr hml hown hlocks hin hwd hsz hP hK hD hl
  subst hsz
  generalize hAe : va_A [(a0, .inr (3, [.int i0, .ref a1, .ref a2, .ref a3, .ref a4, .ref a5, .ref a6, .ref a7])), (a4, .inl (cI, 24, .inl xF3)), (a8, .inl (cI, 24, .inl xF7))] s.heap.size = A at hD ⊢
  have hA : ∀ q : Nat, s.heap.size ≤ q → A q := fun q h => by rw [← hAe]; exact Or.inr h
  have hS : va_S A s.heap s.heap [] := va_S.rf
  have hl : lv_has ls 8 [(0, .ref a0), (1, .ref a8), (2, .long y1), (4, .int p2)] := hl
  obtain ⟨Q, hQ⟩ : ∃ Q, Q = MQ below (va_Ql (fun (r : Int64) (u9 : (Nat → Int32) × (Nat → Nat → Int32) × (Nat → Nat → Int64)) => True) (fun u9 t => va_P (dC, dI) vwCl [(a0, .inr (3, [.int i0, .ref a1, .ref a2, .ref a3, .ref a4, .ref a5, .ref a6, .ref a7])), (a4, .inl (cI, 24, .inl xF3)), (a8, .inl (cI, 24, .inl (u9.2.1 0)))] t.heap ∧ va_D A [(a0, .inr (3, [.int i0, .ref a1, .ref a2, .ref a3, .ref a4, .ref a5, .ref a6, .ref a7])), (a4, .inl (cI, 24, .inl xF3)), (a8, .inl (cI, 24, .inl (u9.2.1 0)))]) A) ([.ref a0, .ref a8, .long y1, .int p2] : List Value).toArray s 0 0 A := ⟨_, rfl⟩
  rw [← hQ]
  have k0 : (0 : Int32).toInt = 0 := by decide
  have k1 : (1 : Int32).toInt = 1 := by decide
  refine lv_lload_n hx hb dX3_passYear_0 rfl (lv_at hl 2 rfl) ?_
  refine lv_lstore (lv' := [(5, .long y1), (0, .ref a0), (1, .ref a8), (2, .long y1), (4, .int p2)]) hx hb dX3_passYear_1 hl (by decide) rfl (fun ls hl => ?_)
  refine lv_iconst (v := 0) hx hb dX3_passYear_3 (by decide) ?_
  refine lv_istore (lv' := [(7, .int 0), (5, .long y1), (0, .ref a0), (1, .ref a8), (2, .long y1), (4, .int p2)]) hx hb dX3_passYear_4 hl (by decide) rfl (fun ls hl => ?_)
  have lp1 : ∀ (d : Nat), ∀ (H : Heap) (locs : List Loc) (ls : Array Slot) (w5_1 : Int64) (w7_1 : Int32) (g2_1 : Nat → Int32), ((0 : Int) ≤ w7_1.toInt ∧ w7_1.toInt ≤ 24) → (24 - w7_1.toInt).toNat < d → va_P (dC, dI) vwCl [(a0, .inr (3, [.int i0, .ref a1, .ref a2, .ref a3, .ref a4, .ref a5, .ref a6, .ref a7])), (a4, .inl (cI, 24, .inl xF3)), (a8, .inl (cI, 24, .inl g2_1))] H → va_D A [(a0, .inr (3, [.int i0, .ref a1, .ref a2, .ref a3, .ref a4, .ref a5, .ref a6, .ref a7])), (a4, .inl (cI, 24, .inl xF3)), (a8, .inl (cI, 24, .inl g2_1))] → va_S A s.heap H locs → lv_has ls 8 [(0, .ref a0), (1, .ref a8), (2, .long y1), (4, .int p2), (5, .long w5_1), (7, .int w7_1)] → W p l e ({ frames := 0, cells := 0, slots := 0, locals := 0 } : Room) s m ([.ref a0, .ref a8, .long y1, .int p2] : List Value).toArray below meth c H locs 0 0 Q (F0 m 6 ls []) := by
    intro d
    induction d with
    | zero =>
      intro H locs ls w5_1 w7_1 g2_1 hr_w7_1 hm hP hD hS hl
      omega
    | succ d ih1 =>
      intro H locs ls w5_1 w7_1 g2_1 hr_w7_1 hm hP hD hS hl
      refine lv_iload hx hb dX3_passYear_6 (lv_at hl 5 rfl) ?_
      refine lv_aload_n hx hb dX3_passYear_8 rfl (lv_at hl 0 rfl) ?_
      refine va_get (D := (dC, dI)) (ci := 3) (v := .int i0) (C := RX3) (T := TX3) (N := 8) hx hb hwd inlX3 hown hK hP 0 rfl rfl 0 (by decide) (hwd _ kr11_1) (fun _ h9 => h9) rfl dX3_passYear_9 ?_
      refine lv_icmp_ge (tgt := 76) hx hb dX3_passYear_12 (by decide) (fun c112 => ?_) (fun c112 => ?_)
      · rw [ki_le] at c112
        refine lv_lload hx hb dX3_passYear_76 (lv_at hl 4 rfl) ?_
        have hP9 := hP.sub (ws' := [(a0, .inr (3, [.int i0, .ref a1, .ref a2, .ref a3, .ref a4, .ref a5, .ref a6, .ref a7])), (a4, .inl (cI, 24, .inl xF3)), (a8, .inl (cI, 24, .inl g2_1))]) [0, 1, 2] rfl
        have hD9 := hD.sub (ws' := [(a0, .inr (3, [.int i0, .ref a1, .ref a2, .ref a3, .ref a4, .ref a5, .ref a6, .ref a7])), (a4, .inl (cI, 24, .inl xF3)), (a8, .inl (cI, 24, .inl g2_1))]) [0, 1, 2] (by decide) rfl
        rw [hQ]
        exact W.lret (v := w5_1) hx hb hr (fun t ht hW => ⟨⟨w5_1, (pickG 0 [], pickG (fun _ => 0) [g2_1], pickG (fun _ => 0) []), rfl, trivial, (by rw [ht]; exact hP9), hD9⟩, hS.F ht⟩) hS.2.2 dX3_passYear_78
      · rw [ki_le] at c112
        refine lv_ldc2 (v := 1103515245) hx hb hown (hwd _ kr45_3) dX3_passYear_15 ?_
        refine lv_lload hx hb dX3_passYear_18 (lv_at hl 4 rfl) ?_
        refine lv_lmul hx hb dX3_passYear_20 ?_
        refine lv_topl (fun x113 ex113 => ?_)
        refine lv_ldc2 (v := 12345) hx hb hown (hwd _ kr45_4) dX3_passYear_21 ?_
        refine lv_ladd hx hb dX3_passYear_24 ?_
        refine lv_topl (fun x114 ex114 => ?_)
        refine lv_ldc2 (v := 2147483647) hx hb hown (hwd _ kr45_5) dX3_passYear_25 ?_
        refine lv_land hx hb dX3_passYear_28 ?_
        refine lv_topl (fun x115 ex115 => ?_)
        refine lv_lstore (lv' := [(5, .long x115), (0, .ref a0), (1, .ref a8), (2, .long y1), (4, .int p2), (7, .int w7_1)]) hx hb dX3_passYear_29 hl (by decide) rfl (fun ls hl => ?_)
        refine lv_lload hx hb dX3_passYear_31 (lv_at hl 0 rfl) ?_
        refine lv_ldc2 (v := 65536) hx hb hown (hwd _ kr45_6) dX3_passYear_33 ?_
        refine lv_ldiv hx hb dX3_passYear_36 (by decide) ?_
        refine lv_topl (fun x116 ex116 => ?_)
        refine lv_ldc2 (v := 100) hx hb hown (hwd _ kr45_7) dX3_passYear_37 ?_
        refine lv_lrem hx hb dX3_passYear_40 (by decide) ?_
        refine lv_topl (fun x117 ex117 => ?_)
        refine lv_iload hx hb dX3_passYear_41 (lv_at hl 4 rfl) ?_
        refine lv_i2l hx hb dX3_passYear_43 rfl ?_
        refine W.lcmp hx hb dX3_passYear_44 ?_
        refine lv_if_ge (tgt := 70) hx hb dX3_passYear_45 (by decide) (fun c118 => ?_) (fun c118 => ?_)
        · clear c118
          obtain ⟨x119, ex119⟩ : ∃ y : Int32, y = w7_1 + 1 := ⟨_, rfl⟩
          refine lv_iinc (v := x119) (lv' := [(7, .int x119), (5, .long x115), (0, .ref a0), (1, .ref a8), (2, .long y1), (4, .int p2)]) hx hb dX3_passYear_70 hl (k := 5) rfl (by rw [ex119]; rfl) (by decide) rfl (fun ls hl => ?_)
          have tx119 := ia_add (a := w7_1) (b := (1 : Int32)) (by omega) (by omega)
          rw [← ex119] at tx119
          refine lv_goto (tgt := 6) hx hb dX3_passYear_73 (by decide) ?_
          exact ih1 _ _ ls x115 x119 g2_1 (show (0 : Int) ≤ x119.toInt ∧ x119.toInt ≤ 24 from ⟨by omega, by omega⟩) (by omega) (hP.sub (ws' := [(a0, .inr (3, [.int i0, .ref a1, .ref a2, .ref a3, .ref a4, .ref a5, .ref a6, .ref a7])), (a4, .inl (cI, 24, .inl xF3)), (a8, .inl (cI, 24, .inl g2_1))]) [0, 1, 2] rfl) (hD.sub (ws' := [(a0, .inr (3, [.int i0, .ref a1, .ref a2, .ref a3, .ref a4, .ref a5, .ref a6, .ref a7])), (a4, .inl (cI, 24, .inl xF3)), (a8, .inl (cI, 24, .inl g2_1))]) [0, 1, 2] (by decide) rfl) hS (lv_sub hl [2, 3, 4, 5, 1, 0] rfl)
        · clear c118
          refine lv_aload_n hx hb dX3_passYear_48 rfl (lv_at hl 2 rfl) ?_
          refine lv_iload hx hb dX3_passYear_49 (lv_at hl 5 rfl) ?_
          have h120 : vp_in w7_1 24 := (vp_of (by omega) (by omega))
          refine va_iald hx hb hK hP 2 0 rfl rfl h120 dX3_passYear_51 ?_
          refine lv_topi (fun x121 ex121 => ?_)
          refine lv_aload_n hx hb dX3_passYear_52 rfl (lv_at hl 1 rfl) ?_
          refine va_get (D := (dC, dI)) (ci := 3) (v := .ref a4) (C := RX3) (T := TX3) (N := 8) hx hb hwd inlX3 hown hK hP 0 rfl rfl 4 (by decide) (hwd _ kr11_16) (fun _ h9 => h9) rfl dX3_passYear_53 ?_
          refine lv_iload hx hb dX3_passYear_56 (lv_at hl 5 rfl) ?_
          have h122 : vp_in w7_1 24 := (vp_of (by omega) (by omega))
          refine va_iald hx hb hK hP 1 0 rfl rfl h122 dX3_passYear_58 ?_
          refine lv_topi (fun x123 ex123 => ?_)
          have tx123 : (0 : Int) ≤ x123.toInt ∧ x123.toInt ≤ 60 := by rw [ex123]; exact p_1 _ (vp_nat h122)
          refine lv_icmp_ge (tgt := 70) hx hb dX3_passYear_59 (by decide) (fun c124 => ?_) (fun c124 => ?_)
          · rw [ki_le] at c124
            obtain ⟨x125, ex125⟩ : ∃ y : Int32, y = w7_1 + 1 := ⟨_, rfl⟩
            refine lv_iinc (v := x125) (lv' := [(7, .int x125), (5, .long x115), (0, .ref a0), (1, .ref a8), (2, .long y1), (4, .int p2)]) hx hb dX3_passYear_70 hl (k := 5) rfl (by rw [ex125]; rfl) (by decide) rfl (fun ls hl => ?_)
            have tx125 := ia_add (a := w7_1) (b := (1 : Int32)) (by omega) (by omega)
            rw [← ex125] at tx125
            refine lv_goto (tgt := 6) hx hb dX3_passYear_73 (by decide) ?_
            exact ih1 _ _ ls x115 x125 g2_1 (show (0 : Int) ≤ x125.toInt ∧ x125.toInt ≤ 24 from ⟨by omega, by omega⟩) (by omega) (hP.sub (ws' := [(a0, .inr (3, [.int i0, .ref a1, .ref a2, .ref a3, .ref a4, .ref a5, .ref a6, .ref a7])), (a4, .inl (cI, 24, .inl xF3)), (a8, .inl (cI, 24, .inl g2_1))]) [0, 1, 2] rfl) (hD.sub (ws' := [(a0, .inr (3, [.int i0, .ref a1, .ref a2, .ref a3, .ref a4, .ref a5, .ref a6, .ref a7])), (a4, .inl (cI, 24, .inl xF3)), (a8, .inl (cI, 24, .inl g2_1))]) [0, 1, 2] (by decide) rfl) hS (lv_sub hl [2, 3, 4, 5, 1, 0] rfl)
          · rw [ki_le] at c124
            refine lv_aload_n hx hb dX3_passYear_62 rfl (lv_at hl 2 rfl) ?_
            refine lv_iload hx hb dX3_passYear_63 (lv_at hl 5 rfl) ?_
            refine lv_dup2_11 hx hb dX3_passYear_65 rfl rfl ?_
            have h126 : vp_in w7_1 24 := (vp_of (by omega) (by omega))
            refine va_iald hx hb hK hP 2 0 rfl rfl h126 dX3_passYear_66 ?_
            refine lv_topi (nm_r (e' := x121) ex121.symm ?_)
            refine lv_iconst (v := 1) hx hb dX3_passYear_67 (by decide) ?_
            refine lv_iadd hx hb dX3_passYear_68 ?_
            refine lv_topi (fun x127 ex127 => ?_)
            have b_b128 := i32_b x121
            have tx127 := ia_add (a := x121) (b := (1 : Int32)) (by omega) (by omega)
            rw [← ex127] at tx127
            refine va_iast hx hb hK hP hD hS 2 0 rfl rfl (vp_of (by omega) (by omega)) dX3_passYear_69 (fun H locs hP hD hS => ?_)
            obtain ⟨f129, ef129⟩ : ∃ f, f = upd g2_1 w7_1.toNatClampNeg x127 := ⟨_, rfl⟩
            replace hP : va_P (dC, dI) vwCl [(a0, .inr (3, [.int i0, .ref a1, .ref a2, .ref a3, .ref a4, .ref a5, .ref a6, .ref a7])), (a4, .inl (cI, 24, .inl xF3)), (a8, .inl (cI, 24, .inl f129))] H := by rw [ef129]; exact hP
            replace hD : va_D A [(a0, .inr (3, [.int i0, .ref a1, .ref a2, .ref a3, .ref a4, .ref a5, .ref a6, .ref a7])), (a4, .inl (cI, 24, .inl xF3)), (a8, .inl (cI, 24, .inl f129))] := by rw [ef129]; exact hD
            obtain ⟨x130, ex130⟩ : ∃ y : Int32, y = w7_1 + 1 := ⟨_, rfl⟩
            refine lv_iinc (v := x130) (lv' := [(7, .int x130), (5, .long x115), (0, .ref a0), (1, .ref a8), (2, .long y1), (4, .int p2)]) hx hb dX3_passYear_70 hl (k := 5) rfl (by rw [ex130]; rfl) (by decide) rfl (fun ls hl => ?_)
            have tx130 := ia_add (a := w7_1) (b := (1 : Int32)) (by omega) (by omega)
            rw [← ex130] at tx130
            refine lv_goto (tgt := 6) hx hb dX3_passYear_73 (by decide) ?_
            exact ih1 _ _ ls x115 x130 f129 (show (0 : Int) ≤ x130.toInt ∧ x130.toInt ≤ 24 from ⟨by omega, by omega⟩) (by omega) (hP.sub (ws' := [(a0, .inr (3, [.int i0, .ref a1, .ref a2, .ref a3, .ref a4, .ref a5, .ref a6, .ref a7])), (a4, .inl (cI, 24, .inl xF3)), (a8, .inl (cI, 24, .inl f129))]) [0, 1, 2] rfl) (hD.sub (ws' := [(a0, .inr (3, [.int i0, .ref a1, .ref a2, .ref a3, .ref a4, .ref a5, .ref a6, .ref a7])), (a4, .inl (cI, 24, .inl xF3)), (a8, .inl (cI, 24, .inl f129))]) [0, 1, 2] (by decide) rfl) hS (lv_sub hl [2, 3, 4, 5, 1, 0] rfl)
  exact lp1 _ _ _ ls y1 (0) xF7 (show (0 : Int) ≤ (0 : Int32).toInt ∧ (0 : Int32).toInt ≤ 24 from ⟨by omega, by omega⟩) (Nat.lt_succ_self _) (hP.sub (ws' := [(a0, .inr (3, [.int i0, .ref a1, .ref a2, .ref a3, .ref a4, .ref a5, .ref a6, .ref a7])), (a4, .inl (cI, 24, .inl xF3)), (a8, .inl (cI, 24, .inl xF7))]) [0, 1, 2] rfl) (hD.sub (ws' := [(a0, .inr (3, [.int i0, .ref a1, .ref a2, .ref a3, .ref a4, .ref a5, .ref a6, .ref a7])), (a4, .inl (cI, 24, .inl xF3)), (a8, .inl (cI, 24, .inl xF7))]) [0, 1, 2] (by decide) rfl) hS (lv_sub hl [2, 3, 4, 5, 1, 0] rfl)
