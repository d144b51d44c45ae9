theorem dX8_hasRow_0 : decode cX8_hasRow 0 = .ok (.aload_n 0, 1) := by decide +kernel
theorem dX8_hasRow_1 : decode cX8_hasRow 1 = .ok (.getfield 18, 3) := by decide +kernel
theorem dX8_hasRow_4 : decode cX8_hasRow 4 = .ok (.iload_n 1, 1) := by decide +kernel
theorem dX8_hasRow_5 : decode cX8_hasRow 5 = .ok (.baload, 1) := by decide +kernel
theorem dX8_hasRow_6 : decode cX8_hasRow 6 = .ok (.ireturn, 1) := by decide +kernel
theorem dX8_howManyHaveRows_0 : decode cX8_howManyHaveRows 0 = .ok (.iconst 0, 1) := by decide +kernel
theorem dX8_howManyHaveRows_1 : decode cX8_howManyHaveRows 1 = .ok (.istore_n 1, 1) := by decide +kernel
theorem dX8_howManyHaveRows_2 : decode cX8_howManyHaveRows 2 = .ok (.iconst 0, 1) := by decide +kernel
theorem dX8_howManyHaveRows_3 : decode cX8_howManyHaveRows 3 = .ok (.istore_n 2, 1) := by decide +kernel
theorem dX8_howManyHaveRows_4 : decode cX8_howManyHaveRows 4 = .ok (.iload_n 2, 1) := by decide +kernel
theorem dX8_howManyHaveRows_5 : decode cX8_howManyHaveRows 5 = .ok (.iconst 4, 1) := by decide +kernel
theorem dX8_howManyHaveRows_6 : decode cX8_howManyHaveRows 6 = .ok (.if_icmp .ge 21, 3) := by decide +kernel
theorem dX8_howManyHaveRows_9 : decode cX8_howManyHaveRows 9 = .ok (.aload_n 0, 1) := by decide +kernel
theorem dX8_howManyHaveRows_10 : decode cX8_howManyHaveRows 10 = .ok (.getfield 18, 3) := by decide +kernel
theorem dX8_howManyHaveRows_13 : decode cX8_howManyHaveRows 13 = .ok (.iload_n 2, 1) := by decide +kernel
theorem dX8_howManyHaveRows_14 : decode cX8_howManyHaveRows 14 = .ok (.baload, 1) := by decide +kernel
theorem dX8_howManyHaveRows_15 : decode cX8_howManyHaveRows 15 = .ok (.ifCond .eq 6, 3) := by decide +kernel
theorem dX8_howManyHaveRows_21 : decode cX8_howManyHaveRows 21 = .ok (.iinc 2 1, 3) := by decide +kernel
theorem dX8_howManyHaveRows_24 : decode cX8_howManyHaveRows 24 = .ok (.goto (-20), 3) := by decide +kernel
theorem dX8_howManyHaveRows_27 : decode cX8_howManyHaveRows 27 = .ok (.iload_n 1, 1) := by decide +kernel
theorem dX8_howManyHaveRows_28 : decode cX8_howManyHaveRows 28 = .ok (.ireturn, 1) := by decide +kernel
theorem dX8_makeRow_0 : decode cX8_makeRow 0 = .ok (.aload_n 0, 1) := by decide +kernel
theorem dX8_makeRow_1 : decode cX8_makeRow 1 = .ok (.getfield 18, 3) := by decide +kernel
theorem dX8_makeRow_4 : decode cX8_makeRow 4 = .ok (.iload_n 1, 1) := by decide +kernel
theorem dX8_makeRow_5 : decode cX8_makeRow 5 = .ok (.iconst 1, 1) := by decide +kernel
theorem dX8_makeRow_6 : decode cX8_makeRow 6 = .ok (.bastore, 1) := by decide +kernel
theorem dX8_makeRow_7 : decode cX8_makeRow 7 = .ok (.aload_n 0, 1) := by decide +kernel
theorem dX8_makeRow_8 : decode cX8_makeRow 8 = .ok (.getfield 9, 3) := by decide +kernel
theorem dX8_makeRow_11 : decode cX8_makeRow 11 = .ok (.iload_n 1, 1) := by decide +kernel
theorem dX8_makeRow_12 : decode cX8_makeRow 12 = .ok (.iload_n 2, 1) := by decide +kernel
theorem dX8_makeRow_13 : decode cX8_makeRow 13 = .ok (.iastore, 1) := by decide +kernel
theorem dX8_makeRow_14 : decode cX8_makeRow 14 = .ok (.aload_n 0, 1) := by decide +kernel
theorem dX8_makeRow_15 : decode cX8_makeRow 15 = .ok (.getfield 15, 3) := by decide +kernel
theorem dX8_makeRow_18 : decode cX8_makeRow 18 = .ok (.iload_n 1, 1) := by decide +kernel
theorem dX8_makeRow_19 : decode cX8_makeRow 19 = .ok (.iload_n 3, 1) := by decide +kernel
theorem dX8_makeRow_20 : decode cX8_makeRow 20 = .ok (.iastore, 1) := by decide +kernel
theorem dX8_makeRow_21 : decode cX8_makeRow 21 = .ok (.iconst 0, 1) := by decide +kernel
theorem dX8_makeRow_22 : decode cX8_makeRow 22 = .ok (.istore 4, 2) := by decide +kernel
theorem dX8_makeRow_24 : decode cX8_makeRow 24 = .ok (.iload 4, 2) := by decide +kernel
theorem dX8_makeRow_26 : decode cX8_makeRow 26 = .ok (.bipush 60, 2) := by decide +kernel
theorem dX8_makeRow_28 : decode cX8_makeRow 28 = .ok (.if_icmp .ge 22, 3) := by decide +kernel
theorem dX8_makeRow_31 : decode cX8_makeRow 31 = .ok (.aload_n 0, 1) := by decide +kernel
theorem dX8_makeRow_32 : decode cX8_makeRow 32 = .ok (.getfield 22, 3) := by decide +kernel
theorem dX8_makeRow_35 : decode cX8_makeRow 35 = .ok (.iload_n 1, 1) := by decide +kernel
theorem dX8_makeRow_36 : decode cX8_makeRow 36 = .ok (.bipush 60, 2) := by decide +kernel
theorem dX8_makeRow_38 : decode cX8_makeRow 38 = .ok (.imul, 1) := by decide +kernel
theorem dX8_makeRow_39 : decode cX8_makeRow 39 = .ok (.iload 4, 2) := by decide +kernel
theorem dX8_makeRow_41 : decode cX8_makeRow 41 = .ok (.iadd, 1) := by decide +kernel
theorem dX8_makeRow_42 : decode cX8_makeRow 42 = .ok (.lconst 0, 1) := by decide +kernel
theorem dX8_makeRow_43 : decode cX8_makeRow 43 = .ok (.lastore, 1) := by decide +kernel
theorem dX8_makeRow_44 : decode cX8_makeRow 44 = .ok (.iinc 4 1, 3) := by decide +kernel
theorem dX8_makeRow_47 : decode cX8_makeRow 47 = .ok (.goto (-23), 3) := by decide +kernel
theorem dX8_makeRow_50 : decode cX8_makeRow 50 = .ok (.return_, 1) := by decide +kernel
set_option maxHeartbeats 4000000 in
set_option maxRecDepth 100000 in
theorem c_X8_hasRow_0 (l : Launch) (dC : Nat → ClassId) (dI : Nat → Nat → Nat) (cI cZ cB cJ cM : ClassId) (h0 s0 s1 s2 s3 : Nat) (sz : Nat) : Met l yX8_hasRow (kw yX8_hasRow cX8_hasRow 2 (some .boolean)) ({ frames := 0, cells := 0, slots := 0, locals := 0 }) (va_Pc [.ref h0, .int 0] (kPre dC dI [(cI, .int), (cZ, .boolean), (cB, .byte), (cJ, .long), (cM, .object RX2)] [(h0, .inr (8, [.ref s0, .ref s1, .ref s2, .ref s3])), (s2, .inl (cZ, 4, .inl (fun _ => 0)))] sz)) (va_Qi (fun (r : Int32) (_ : Unit) => r = 0) (fun _ t => va_P (dC, dI) vwCl [(h0, .inr (8, [.ref s0, .ref s1, .ref s2, .ref s3])), (s2, .inl (cZ, 4, .inl (fun _ => 0)))] t.heap ∧ va_D (va_A [(h0, .inr (8, [.ref s0, .ref s1, .ref s2, .ref s3])), (s2, .inl (cZ, 4, .inl (fun _ => 0)))] sz) [(h0, .inr (8, [.ref s0, .ref s1, .ref s2, .ref s3])), (s2, .inl (cZ, 4, .inl (fun _ => 0)))]) (va_A [(h0, .inr (8, [.ref s0, .ref s1, .ref s2, .ref s3])), (s2, .inl (cZ, 4, .inl (fun _ => 0)))] sz)) 0 0 (va_A [(h0, .inr (8, [.ref s0, .ref s1, .ref s2, .ref s3])), (s2, .inl (cZ, 4, .inl (fun _ => 0)))] sz) := by
  refine kEnter (by decide) (Nat.le_of_ble_eq_true rfl) ?_
  intro p e s m below meth c ls hx hb hr hml hown hlocks hin hwd hsz hP hK hD hl
  subst hsz
  generalize hAe : va_A [(h0, .inr (8, [.ref s0, .ref s1, .ref s2, .ref s3])), (s2, .inl (cZ, 4, .inl (fun _ => 0)))] s.heap.size = A at hD ⊢
  have hA : ∀ q : Nat, s.heap.size ≤ q → A q := fun q h => by rw [← hAe]; exact Or.inr h
  have hS : va_S A s.heap s.heap [] := va_S.rf
  have hl : lv_has ls 2 [(0, .ref h0), (1, .int 0)] := hl
  refine lv_aload_n hx hb dX8_hasRow_0 rfl (lv_at hl 0 rfl) ?_
  refine va_get (D := (dC, dI)) (ci := 8) (v := .ref s2) (C := RX8) (T := TX8) (N := 4) hx hb hwd inlX8 hown hK hP 0 rfl rfl 2 (by decide) (hwd _ kr4_9) (fun _ h9 => h9) rfl dX8_hasRow_1 ?_
  refine lv_iload_n hx hb dX8_hasRow_4 rfl (lv_at hl 1 rfl) ?_
  refine va_zald hx hb hK hP 1 1 rfl rfl (vin (by decide)) dX8_hasRow_5 ?_
  refine lv_topi (nm_r (e' := (0)) (by decide +kernel) ?_)
  have hP9 := hP.sub (ws' := [(h0, .inr (8, [.ref s0, .ref s1, .ref s2, .ref s3])), (s2, .inl (cZ, 4, .inl (fun _ => 0)))]) [0, 1] rfl
  have hD9 := hD.sub (ws' := [(h0, .inr (8, [.ref s0, .ref s1, .ref s2, .ref s3])), (s2, .inl (cZ, 4, .inl (fun _ => 0)))]) [0, 1] (by decide) rfl
  exact W.zret (v := 0) hx hb hr (by decide) (fun t ht hW => ⟨⟨0, (), rfl, rfl, (by rw [ht]; exact hP9), hD9⟩, hS.F ht⟩) hS.2.2 dX8_hasRow_6
set_option maxHeartbeats 4000000 in
set_option maxRecDepth 100000 in
theorem c_X8_hasRow_1 (l : Launch) (dC : Nat → ClassId) (dI : Nat → Nat → Nat) (cI cZ cB cJ cM : ClassId) (h0 s0 s1 s2 s3 : Nat) (sz : Nat) : Met l yX8_hasRow (kw yX8_hasRow cX8_hasRow 2 (some .boolean)) ({ frames := 0, cells := 0, slots := 0, locals := 0 }) (va_Pc [.ref h0, .int 1] (kPre dC dI [(cI, .int), (cZ, .boolean), (cB, .byte), (cJ, .long), (cM, .object RX2)] [(h0, .inr (8, [.ref s0, .ref s1, .ref s2, .ref s3])), (s2, .inl (cZ, 4, .inl (fun _ => 0)))] sz)) (va_Qi (fun (r : Int32) (_ : Unit) => r = 0) (fun _ t => va_P (dC, dI) vwCl [(h0, .inr (8, [.ref s0, .ref s1, .ref s2, .ref s3])), (s2, .inl (cZ, 4, .inl (fun _ => 0)))] t.heap ∧ va_D (va_A [(h0, .inr (8, [.ref s0, .ref s1, .ref s2, .ref s3])), (s2, .inl (cZ, 4, .inl (fun _ => 0)))] sz) [(h0, .inr (8, [.ref s0, .ref s1, .ref s2, .ref s3])), (s2, .inl (cZ, 4, .inl (fun _ => 0)))]) (va_A [(h0, .inr (8, [.ref s0, .ref s1, .ref s2, .ref s3])), (s2, .inl (cZ, 4, .inl (fun _ => 0)))] sz)) 0 0 (va_A [(h0, .inr (8, [.ref s0, .ref s1, .ref s2, .ref s3])), (s2, .inl (cZ, 4, .inl (fun _ => 0)))] sz) := by
  refine kEnter (by decide) (Nat.le_of_ble_eq_true rfl) ?_
  intro p e s m below meth c ls hx hb hr hml hown hlocks hin hwd hsz hP hK hD hl
  subst hsz
  generalize hAe : va_A [(h0, .inr (8, [.ref s0, .ref s1, .ref s2, .ref s3])), (s2, .inl (cZ, 4, .inl (fun _ => 0)))] s.heap.size = A at hD ⊢
  have hA : ∀ q : Nat, s.heap.size ≤ q → A q := fun q h => by rw [← hAe]; exact Or.inr h
  have hS : va_S A s.heap s.heap [] := va_S.rf
  have hl : lv_has ls 2 [(0, .ref h0), (1, .int 1)] := hl
  refine lv_aload_n hx hb dX8_hasRow_0 rfl (lv_at hl 0 rfl) ?_
  refine va_get (D := (dC, dI)) (ci := 8) (v := .ref s2) (C := RX8) (T := TX8) (N := 4) hx hb hwd inlX8 hown hK hP 0 rfl rfl 2 (by decide) (hwd _ kr4_9) (fun _ h9 => h9) rfl dX8_hasRow_1 ?_
  refine lv_iload_n hx hb dX8_hasRow_4 rfl (lv_at hl 1 rfl) ?_
  refine va_zald hx hb hK hP 1 1 rfl rfl (vin (by decide)) dX8_hasRow_5 ?_
  refine lv_topi (nm_r (e' := (0)) (by decide +kernel) ?_)
  have hP9 := hP.sub (ws' := [(h0, .inr (8, [.ref s0, .ref s1, .ref s2, .ref s3])), (s2, .inl (cZ, 4, .inl (fun _ => 0)))]) [0, 1] rfl
  have hD9 := hD.sub (ws' := [(h0, .inr (8, [.ref s0, .ref s1, .ref s2, .ref s3])), (s2, .inl (cZ, 4, .inl (fun _ => 0)))]) [0, 1] (by decide) rfl
  exact W.zret (v := 0) hx hb hr (by decide) (fun t ht hW => ⟨⟨0, (), rfl, rfl, (by rw [ht]; exact hP9), hD9⟩, hS.F ht⟩) hS.2.2 dX8_hasRow_6
set_option maxHeartbeats 4000000 in
set_option maxRecDepth 100000 in
theorem c_X8_hasRow_2 (l : Launch) (dC : Nat → ClassId) (dI : Nat → Nat → Nat) (cI cZ cB cJ cM : ClassId) (h0 s0 s1 s2 s3 : Nat) (sz : Nat) : Met l yX8_hasRow (kw yX8_hasRow cX8_hasRow 2 (some .boolean)) ({ frames := 0, cells := 0, slots := 0, locals := 0 }) (va_Pc [.ref h0, .int 2] (kPre dC dI [(cI, .int), (cZ, .boolean), (cB, .byte), (cJ, .long), (cM, .object RX2)] [(h0, .inr (8, [.ref s0, .ref s1, .ref s2, .ref s3])), (s2, .inl (cZ, 4, .inl (fun _ => 0)))] sz)) (va_Qi (fun (r : Int32) (_ : Unit) => r = 0) (fun _ t => va_P (dC, dI) vwCl [(h0, .inr (8, [.ref s0, .ref s1, .ref s2, .ref s3])), (s2, .inl (cZ, 4, .inl (fun _ => 0)))] t.heap ∧ va_D (va_A [(h0, .inr (8, [.ref s0, .ref s1, .ref s2, .ref s3])), (s2, .inl (cZ, 4, .inl (fun _ => 0)))] sz) [(h0, .inr (8, [.ref s0, .ref s1, .ref s2, .ref s3])), (s2, .inl (cZ, 4, .inl (fun _ => 0)))]) (va_A [(h0, .inr (8, [.ref s0, .ref s1, .ref s2, .ref s3])), (s2, .inl (cZ, 4, .inl (fun _ => 0)))] sz)) 0 0 (va_A [(h0, .inr (8, [.ref s0, .ref s1, .ref s2, .ref s3])), (s2, .inl (cZ, 4, .inl (fun _ => 0)))] sz) := by
  refine kEnter (by decide) (Nat.le_of_ble_eq_true rfl) ?_
  intro p e s m below meth c ls hx hb hr hml hown hlocks hin hwd hsz hP hK hD hl
  subst hsz
  generalize hAe : va_A [(h0, .inr (8, [.ref s0, .ref s1, .ref s2, .ref s3])), (s2, .inl (cZ, 4, .inl (fun _ => 0)))] s.heap.size = A at hD ⊢
  have hA : ∀ q : Nat, s.heap.size ≤ q → A q := fun q h => by rw [← hAe]; exact Or.inr h
  have hS : va_S A s.heap s.heap [] := va_S.rf
  have hl : lv_has ls 2 [(0, .ref h0), (1, .int 2)] := hl
  refine lv_aload_n hx hb dX8_hasRow_0 rfl (lv_at hl 0 rfl) ?_
  refine va_get (D := (dC, dI)) (ci := 8) (v := .ref s2) (C := RX8) (T := TX8) (N := 4) hx hb hwd inlX8 hown hK hP 0 rfl rfl 2 (by decide) (hwd _ kr4_9) (fun _ h9 => h9) rfl dX8_hasRow_1 ?_
  refine lv_iload_n hx hb dX8_hasRow_4 rfl (lv_at hl 1 rfl) ?_
  refine va_zald hx hb hK hP 1 1 rfl rfl (vin (by decide)) dX8_hasRow_5 ?_
  refine lv_topi (nm_r (e' := (0)) (by decide +kernel) ?_)
  have hP9 := hP.sub (ws' := [(h0, .inr (8, [.ref s0, .ref s1, .ref s2, .ref s3])), (s2, .inl (cZ, 4, .inl (fun _ => 0)))]) [0, 1] rfl
  have hD9 := hD.sub (ws' := [(h0, .inr (8, [.ref s0, .ref s1, .ref s2, .ref s3])), (s2, .inl (cZ, 4, .inl (fun _ => 0)))]) [0, 1] (by decide) rfl
  exact W.zret (v := 0) hx hb hr (by decide) (fun t ht hW => ⟨⟨0, (), rfl, rfl, (by rw [ht]; exact hP9), hD9⟩, hS.F ht⟩) hS.2.2 dX8_hasRow_6
set_option maxHeartbeats 4000000 in
set_option maxRecDepth 100000 in
theorem c_X8_hasRow_3 (l : Launch) (dC : Nat → ClassId) (dI : Nat → Nat → Nat) (cI cZ cB cJ cM : ClassId) (h0 s0 s1 s2 s3 : Nat) (sz : Nat) : Met l yX8_hasRow (kw yX8_hasRow cX8_hasRow 2 (some .boolean)) ({ frames := 0, cells := 0, slots := 0, locals := 0 }) (va_Pc [.ref h0, .int 3] (kPre dC dI [(cI, .int), (cZ, .boolean), (cB, .byte), (cJ, .long), (cM, .object RX2)] [(h0, .inr (8, [.ref s0, .ref s1, .ref s2, .ref s3])), (s2, .inl (cZ, 4, .inl (fun _ => 0)))] sz)) (va_Qi (fun (r : Int32) (_ : Unit) => r = 0) (fun _ t => va_P (dC, dI) vwCl [(h0, .inr (8, [.ref s0, .ref s1, .ref s2, .ref s3])), (s2, .inl (cZ, 4, .inl (fun _ => 0)))] t.heap ∧ va_D (va_A [(h0, .inr (8, [.ref s0, .ref s1, .ref s2, .ref s3])), (s2, .inl (cZ, 4, .inl (fun _ => 0)))] sz) [(h0, .inr (8, [.ref s0, .ref s1, .ref s2, .ref s3])), (s2, .inl (cZ, 4, .inl (fun _ => 0)))]) (va_A [(h0, .inr (8, [.ref s0, .ref s1, .ref s2, .ref s3])), (s2, .inl (cZ, 4, .inl (fun _ => 0)))] sz)) 0 0 (va_A [(h0, .inr (8, [.ref s0, .ref s1, .ref s2, .ref s3])), (s2, .inl (cZ, 4, .inl (fun _ => 0)))] sz) := by
  refine kEnter (by decide) (Nat.le_of_ble_eq_true rfl) ?_
  intro p e s m below meth c ls hx hb hr hml hown hlocks hin hwd hsz hP hK hD hl
  subst hsz
  generalize hAe : va_A [(h0, .inr (8, [.ref s0, .ref s1, .ref s2, .ref s3])), (s2, .inl (cZ, 4, .inl (fun _ => 0)))] s.heap.size = A at hD ⊢
  have hA : ∀ q : Nat, s.heap.size ≤ q → A q := fun q h => by rw [← hAe]; exact Or.inr h
  have hS : va_S A s.heap s.heap [] := va_S.rf
  have hl : lv_has ls 2 [(0, .ref h0), (1, .int 3)] := hl
  refine lv_aload_n hx hb dX8_hasRow_0 rfl (lv_at hl 0 rfl) ?_
  refine va_get (D := (dC, dI)) (ci := 8) (v := .ref s2) (C := RX8) (T := TX8) (N := 4) hx hb hwd inlX8 hown hK hP 0 rfl rfl 2 (by decide) (hwd _ kr4_9) (fun _ h9 => h9) rfl dX8_hasRow_1 ?_
  refine lv_iload_n hx hb dX8_hasRow_4 rfl (lv_at hl 1 rfl) ?_
  refine va_zald hx hb hK hP 1 1 rfl rfl (vin (by decide)) dX8_hasRow_5 ?_
  refine lv_topi (nm_r (e' := (0)) (by decide +kernel) ?_)
  have hP9 := hP.sub (ws' := [(h0, .inr (8, [.ref s0, .ref s1, .ref s2, .ref s3])), (s2, .inl (cZ, 4, .inl (fun _ => 0)))]) [0, 1] rfl
  have hD9 := hD.sub (ws' := [(h0, .inr (8, [.ref s0, .ref s1, .ref s2, .ref s3])), (s2, .inl (cZ, 4, .inl (fun _ => 0)))]) [0, 1] (by decide) rfl
  exact W.zret (v := 0) hx hb hr (by decide) (fun t ht hW => ⟨⟨0, (), rfl, rfl, (by rw [ht]; exact hP9), hD9⟩, hS.F ht⟩) hS.2.2 dX8_hasRow_6
set_option maxHeartbeats 4000000 in
set_option maxRecDepth 100000 in
theorem c_X8_howManyHaveRows (l : Launch) (dC : Nat → ClassId) (dI : Nat → Nat → Nat) (cI cZ cB cJ cM : ClassId) (h0 s0 s1 s2 s3 : Nat) (sz : Nat) : Met l yX8_howManyHaveRows (kw yX8_howManyHaveRows cX8_howManyHaveRows 3 (some .int)) ({ frames := 0, cells := 0, slots := 0, locals := 0 }) (va_Pc [.ref h0] (kPre dC dI [(cI, .int), (cZ, .boolean), (cB, .byte), (cJ, .long), (cM, .object RX2)] [(h0, .inr (8, [.ref s0, .ref s1, .ref s2, .ref s3])), (s2, .inl (cZ, 4, .inl (fun _ => 0)))] sz)) (va_Qi (fun (r : Int32) (_ : Unit) => r = 0) (fun _ t => va_P (dC, dI) vwCl [(h0, .inr (8, [.ref s0, .ref s1, .ref s2, .ref s3])), (s2, .inl (cZ, 4, .inl (fun _ => 0)))] t.heap ∧ va_D (va_A [(h0, .inr (8, [.ref s0, .ref s1, .ref s2, .ref s3])), (s2, .inl (cZ, 4, .inl (fun _ => 0)))] sz) [(h0, .inr (8, [.ref s0, .ref s1, .ref s2, .ref s3])), (s2, .inl (cZ, 4, .inl (fun _ => 0)))]) (va_A [(h0, .inr (8, [.ref s0, .ref s1, .ref s2, .ref s3])), (s2, .inl (cZ, 4, .inl (fun _ => 0)))] sz)) 0 0 (va_A [(h0, .inr (8, [.ref s0, .ref s1, .ref s2, .ref s3])), (s2, .inl (cZ, 4, .inl (fun _ => 0)))] sz) := by
  refine kEnter (by decide) (Nat.le_of_ble_eq_true rfl) ?_
  intro p e s m below meth c ls hx hb hr hml hown hlocks hin hwd hsz hP hK hD hl
  subst hsz
  generalize hAe : va_A [(h0, .inr (8, [.ref s0, .ref s1, .ref s2, .ref s3])), (s2, .inl (cZ, 4, .inl (fun _ => 0)))] s.heap.size = A at hD ⊢
  have hA : ∀ q : Nat, s.heap.size ≤ q → A q := fun q h => by rw [← hAe]; exact Or.inr h
  have hS : va_S A s.heap s.heap [] := va_S.rf
  have hl : lv_has ls 3 [(0, .ref h0)] := hl
  refine lv_iconst (v := 0) hx hb dX8_howManyHaveRows_0 (by decide) ?_
  refine lv_istore_n (lv' := [(1, .int 0), (0, .ref h0)]) hx hb dX8_howManyHaveRows_1 rfl hl (by decide) rfl (fun ls hl => ?_)
  refine lv_iconst (v := 0) hx hb dX8_howManyHaveRows_2 (by decide) ?_
  refine lv_istore_n (lv' := [(2, .int 0), (1, .int 0), (0, .ref h0)]) hx hb dX8_howManyHaveRows_3 rfl hl (by decide) rfl (fun ls hl => ?_)
  refine lv_iload_n hx hb dX8_howManyHaveRows_4 rfl (lv_at hl 0 rfl) ?_
  refine lv_iconst (v := 4) hx hb dX8_howManyHaveRows_5 (by decide) ?_
  refine lv_icmp_ge (tgt := 27) hx hb dX8_howManyHaveRows_6 (by decide) (fun c1 => absurd c1 (by decide)) (fun c1 => ?_)
  refine lv_aload_n hx hb dX8_howManyHaveRows_9 rfl (lv_at hl 2 rfl) ?_
  refine va_get (D := (dC, dI)) (ci := 8) (v := .ref s2) (C := RX8) (T := TX8) (N := 4) hx hb hwd inlX8 hown hK hP 0 rfl rfl 2 (by decide) (hwd _ kr4_9) (fun _ h9 => h9) rfl dX8_howManyHaveRows_10 ?_
  refine lv_iload_n hx hb dX8_howManyHaveRows_13 rfl (lv_at hl 0 rfl) ?_
  refine va_zald hx hb hK hP 1 1 rfl rfl (vin (by decide)) dX8_howManyHaveRows_14 ?_
  refine lv_topi (nm_r (e' := (0)) (by decide +kernel) ?_)
  refine lv_if_eq (tgt := 21) hx hb dX8_howManyHaveRows_15 (by decide) (fun c2 => ?_) (fun c2 => absurd c2 (by decide))
  refine lv_iinc (v := 1) (lv' := [(2, .int 1), (1, .int 0), (0, .ref h0)]) hx hb dX8_howManyHaveRows_21 hl (k := 0) rfl (by decide) (by decide) rfl (fun ls hl => ?_)
  refine lv_goto (tgt := 4) hx hb dX8_howManyHaveRows_24 (by decide) ?_
  refine lv_iload_n hx hb dX8_howManyHaveRows_4 rfl (lv_at hl 0 rfl) ?_
  refine lv_iconst (v := 4) hx hb dX8_howManyHaveRows_5 (by decide) ?_
  refine lv_icmp_ge (tgt := 27) hx hb dX8_howManyHaveRows_6 (by decide) (fun c3 => absurd c3 (by decide)) (fun c3 => ?_)
  refine lv_aload_n hx hb dX8_howManyHaveRows_9 rfl (lv_at hl 2 rfl) ?_
  refine va_get (D := (dC, dI)) (ci := 8) (v := .ref s2) (C := RX8) (T := TX8) (N := 4) hx hb hwd inlX8 hown hK hP 0 rfl rfl 2 (by decide) (hwd _ kr4_9) (fun _ h9 => h9) rfl dX8_howManyHaveRows_10 ?_
  refine lv_iload_n hx hb dX8_howManyHaveRows_13 rfl (lv_at hl 0 rfl) ?_
  refine va_zald hx hb hK hP 1 1 rfl rfl (vin (by decide)) dX8_howManyHaveRows_14 ?_
  refine lv_topi (nm_r (e' := (0)) (by decide +kernel) ?_)
  refine lv_if_eq (tgt := 21) hx hb dX8_howManyHaveRows_15 (by decide) (fun c4 => ?_) (fun c4 => absurd c4 (by decide))
  refine lv_iinc (v := 2) (lv' := [(2, .int 2), (1, .int 0), (0, .ref h0)]) hx hb dX8_howManyHaveRows_21 hl (k := 0) rfl (by decide) (by decide) rfl (fun ls hl => ?_)
  refine lv_goto (tgt := 4) hx hb dX8_howManyHaveRows_24 (by decide) ?_
  refine lv_iload_n hx hb dX8_howManyHaveRows_4 rfl (lv_at hl 0 rfl) ?_
  refine lv_iconst (v := 4) hx hb dX8_howManyHaveRows_5 (by decide) ?_
  refine lv_icmp_ge (tgt := 27) hx hb dX8_howManyHaveRows_6 (by decide) (fun c5 => absurd c5 (by decide)) (fun c5 => ?_)
  refine lv_aload_n hx hb dX8_howManyHaveRows_9 rfl (lv_at hl 2 rfl) ?_
  refine va_get (D := (dC, dI)) (ci := 8) (v := .ref s2) (C := RX8) (T := TX8) (N := 4) hx hb hwd inlX8 hown hK hP 0 rfl rfl 2 (by decide) (hwd _ kr4_9) (fun _ h9 => h9) rfl dX8_howManyHaveRows_10 ?_
  refine lv_iload_n hx hb dX8_howManyHaveRows_13 rfl (lv_at hl 0 rfl) ?_
  refine va_zald hx hb hK hP 1 1 rfl rfl (vin (by decide)) dX8_howManyHaveRows_14 ?_
  refine lv_topi (nm_r (e' := (0)) (by decide +kernel) ?_)
  refine lv_if_eq (tgt := 21) hx hb dX8_howManyHaveRows_15 (by decide) (fun c6 => ?_) (fun c6 => absurd c6 (by decide))
  refine lv_iinc (v := 3) (lv' := [(2, .int 3), (1, .int 0), (0, .ref h0)]) hx hb dX8_howManyHaveRows_21 hl (k := 0) rfl (by decide) (by decide) rfl (fun ls hl => ?_)
  refine lv_goto (tgt := 4) hx hb dX8_howManyHaveRows_24 (by decide) ?_
  refine lv_iload_n hx hb dX8_howManyHaveRows_4 rfl (lv_at hl 0 rfl) ?_
  refine lv_iconst (v := 4) hx hb dX8_howManyHaveRows_5 (by decide) ?_
  refine lv_icmp_ge (tgt := 27) hx hb dX8_howManyHaveRows_6 (by decide) (fun c7 => absurd c7 (by decide)) (fun c7 => ?_)
  refine lv_aload_n hx hb dX8_howManyHaveRows_9 rfl (lv_at hl 2 rfl) ?_
  refine va_get (D := (dC, dI)) (ci := 8) (v := .ref s2) (C := RX8) (T := TX8) (N := 4) hx hb hwd inlX8 hown hK hP 0 rfl rfl 2 (by decide) (hwd _ kr4_9) (fun _ h9 => h9) rfl dX8_howManyHaveRows_10 ?_
  refine lv_iload_n hx hb dX8_howManyHaveRows_13 rfl (lv_at hl 0 rfl) ?_
  refine va_zald hx hb hK hP 1 1 rfl rfl (vin (by decide)) dX8_howManyHaveRows_14 ?_
  refine lv_topi (nm_r (e' := (0)) (by decide +kernel) ?_)
  refine lv_if_eq (tgt := 21) hx hb dX8_howManyHaveRows_15 (by decide) (fun c8 => ?_) (fun c8 => absurd c8 (by decide))
  refine lv_iinc (v := 4) (lv' := [(2, .int 4), (1, .int 0), (0, .ref h0)]) hx hb dX8_howManyHaveRows_21 hl (k := 0) rfl (by decide) (by decide) rfl (fun ls hl => ?_)
  refine lv_goto (tgt := 4) hx hb dX8_howManyHaveRows_24 (by decide) ?_
  refine lv_iload_n hx hb dX8_howManyHaveRows_4 rfl (lv_at hl 0 rfl) ?_
  refine lv_iconst (v := 4) hx hb dX8_howManyHaveRows_5 (by decide) ?_
  refine lv_icmp_ge (tgt := 27) hx hb dX8_howManyHaveRows_6 (by decide) (fun c9 => ?_) (fun c9 => absurd c9 (by decide))
  refine lv_iload_n hx hb dX8_howManyHaveRows_27 rfl (lv_at hl 1 rfl) ?_
  have hP9 := hP.sub (ws' := [(h0, .inr (8, [.ref s0, .ref s1, .ref s2, .ref s3])), (s2, .inl (cZ, 4, .inl (fun _ => 0)))]) [0, 1] rfl
  have hD9 := hD.sub (ws' := [(h0, .inr (8, [.ref s0, .ref s1, .ref s2, .ref s3])), (s2, .inl (cZ, 4, .inl (fun _ => 0)))]) [0, 1] (by decide) rfl
  exact W.iret (v := 0) hx hb hr (fun t ht hW => ⟨⟨0, (), rfl, rfl, (by rw [ht]; exact hP9), hD9⟩, hS.F ht⟩) hS.2.2 dX8_howManyHaveRows_28
set_option maxHeartbeats 4000000 in
set_option maxRecDepth 100000 in
theorem lp_c_X8_makeRow_0_0 {p : Program} {l : Launch} {e : Env} {R : Room} {s : State} {m : MethodId} {args : Array Value} {below : List Frame} {meth : Method} {c : Code} {A : Nat → Prop} {cells slots : Nat} {Q : State → Prop} {dC : Nat → ClassId} {dI : Nat → Nat → Nat} {cI cZ cB cJ cM : ClassId} {h0 s0 s1 s2 s3 : Nat} {p0 p1 : Int32}  {f1 : Nat → Int32} {f2 : Nat → Int32} (hx : p.tables.exec = Jvm.exec) (hb : c.code = cX8_makeRow) (hown : s.vm.findClass RX8 = some m.cls) (hwd : ∀ wd ∈ wsL_law, wd.before args s = true) (hK : va_K (dC, dI) vwCl [(cI, .int), (cZ, .boolean), (cB, .byte), (cJ, .long), (cM, .object RX2)] s) (kx : ∀ (H : Heap) (locs : List Loc) (ls : Array Slot) (g : Nat → Int64), va_P (dC, dI) vwCl [(h0, .inr (8, [.ref s0, .ref s1, .ref s2, .ref s3])), (s0, .inl (cI, 4, .inl f1)), (s1, .inl (cI, 4, .inl f2)), (s2, .inl (cZ, 4, .inl (upd (fun _ => 0) 0 1))), (s3, .inl (cJ, 240, .inr (.inl g)))] H → va_D A [(h0, .inr (8, [.ref s0, .ref s1, .ref s2, .ref s3])), (s0, .inl (cI, 4, .inl f1)), (s1, .inl (cI, 4, .inl f2)), (s2, .inl (cZ, 4, .inl (upd (fun _ => 0) 0 1))), (s3, .inl (cJ, 240, .inr (.inl g)))] → va_S A s.heap H locs → lv_has ls 5 [(0, .ref h0), (1, .int 0), (2, .int p0), (3, .int p1), (4, .int (nI 60))] → W p l e R s m args below meth c H locs cells slots Q (F0 m 50 ls [])) : ∀ (d i : Nat), i + d = 60 → ∀ (H : Heap) (locs : List Loc) (ls : Array Slot) (g : Nat → Int64), va_P (dC, dI) vwCl [(h0, .inr (8, [.ref s0, .ref s1, .ref s2, .ref s3])), (s0, .inl (cI, 4, .inl f1)), (s1, .inl (cI, 4, .inl f2)), (s2, .inl (cZ, 4, .inl (upd (fun _ => 0) 0 1))), (s3, .inl (cJ, 240, .inr (.inl g)))] H → va_D A [(h0, .inr (8, [.ref s0, .ref s1, .ref s2, .ref s3])), (s0, .inl (cI, 4, .inl f1)), (s1, .inl (cI, 4, .inl f2)), (s2, .inl (cZ, 4, .inl (upd (fun _ => 0) 0 1))), (s3, .inl (cJ, 240, .inr (.inl g)))] → va_S A s.heap H locs → lv_has ls 5 [(0, .ref h0), (1, .int 0), (2, .int p0), (3, .int p1), (4, .int (nI i))] → W p l e R s m args below meth c H locs cells slots Q (F0 m 24 ls []) := by
  intro d
  induction d with
  | zero =>
    intro i h1 H locs ls g hP hD hS hl
    obtain rfl : i = 60 := by omega
    refine lv_iload hx hb dX8_makeRow_24 (lv_at hl 4 rfl) ?_
    refine lv_bipush (v := 60) hx hb dX8_makeRow_26 (by decide) ?_
    refine lv_icmp_ge (tgt := 50) hx hb dX8_makeRow_28 (by decide) (fun c1 => ?_) (fun c1 => absurd c1 (by decide))
    exact kx H locs ls g hP hD hS hl
  | succ d ih =>
    intro i h1 H locs ls g hP hD hS hl
    have hi : i < 60 := by omega
    refine lv_iload hx hb dX8_makeRow_24 (lv_at hl 4 rfl) ?_
    refine lv_bipush (v := 60) hx hb dX8_makeRow_26 (by decide) ?_
    refine lv_icmp_ge (tgt := 50) hx hb dX8_makeRow_28 (by decide) (fun c1 => absurd c1 (show ¬ nI 60 ≤ nI i from nI_ge hi (by decide))) (fun c1 => ?_)
    refine lv_aload_n hx hb dX8_makeRow_31 rfl (lv_at hl 0 rfl) ?_
    refine va_get (D := (dC, dI)) (ci := 8) (v := .ref s3) (C := RX8) (T := TX8) (N := 4) hx hb hwd inlX8 hown hK hP 0 rfl rfl 3 (by decide) (hwd _ kr4_11) (fun _ h9 => h9) rfl dX8_makeRow_32 ?_
    refine lv_iload_n hx hb dX8_makeRow_35 rfl (lv_at hl 1 rfl) ?_
    refine lv_bipush (v := 60) hx hb dX8_makeRow_36 (by decide) ?_
    refine lv_imul hx hb dX8_makeRow_38 ?_
    refine lv_topi (nm_r (e' := (0)) (by decide +kernel) ?_)
    refine lv_iload hx hb dX8_makeRow_39 (lv_at hl 4 rfl) ?_
    refine lv_iadd hx hb dX8_makeRow_41 ?_
    refine lv_topi (fun x103 ex103 => ?_)
    refine lv_lconst (v := 0) hx hb dX8_makeRow_42 (by decide) ?_
    refine va_last hx hb hK hP hD hS 4 3 rfl rfl (by rw [ex103]; exact (show vp_in (nI 0 + nI i) 240 from vp_base 0 i 240 (by omega) (by decide))) dX8_makeRow_43 (fun H locs hP hD hS => ?_)
    obtain ⟨f104, ef104⟩ : ∃ f, f = vp_updL g x103.toNatClampNeg 0 := ⟨_, rfl⟩
    have hP : va_P (dC, dI) vwCl [(h0, .inr (8, [.ref s0, .ref s1, .ref s2, .ref s3])), (s0, .inl (cI, 4, .inl f1)), (s1, .inl (cI, 4, .inl f2)), (s2, .inl (cZ, 4, .inl (upd (fun _ => 0) 0 1))), (s3, .inl (cJ, 240, .inr (.inl f104)))] H := by rw [ef104]; exact hP
    have hD : va_D A [(h0, .inr (8, [.ref s0, .ref s1, .ref s2, .ref s3])), (s0, .inl (cI, 4, .inl f1)), (s1, .inl (cI, 4, .inl f2)), (s2, .inl (cZ, 4, .inl (upd (fun _ => 0) 0 1))), (s3, .inl (cJ, 240, .inr (.inl f104)))] := by rw [ef104]; exact hD
    refine lv_iinc (v := nI (i + 1)) (lv' := [(4, .int (nI (i + 1))), (0, .ref h0), (1, .int 0), (2, .int p0), (3, .int p1)]) hx hb dX8_makeRow_44 hl (k := 4) rfl (nI_1 i) (by decide) rfl (fun ls hl => ?_)
    refine lv_goto (tgt := 24) hx hb dX8_makeRow_47 (by decide) ?_
    exact ih (i + 1) (by omega) H locs ls f104 hP hD hS (lv_sub hl [1, 2, 3, 4, 0] rfl)
set_option maxHeartbeats 4000000 in
set_option maxRecDepth 100000 in
theorem c_X8_makeRow_0 (l : Launch) (dC : Nat → ClassId) (dI : Nat → Nat → Nat) (cI cZ cB cJ cM : ClassId) (h0 s0 s1 s2 s3 : Nat) (p0 p1 : Int32) (sz : Nat) : Met l yX8_makeRow (kw yX8_makeRow cX8_makeRow 5 none) ({ frames := 0, cells := 0, slots := 0, locals := 0 }) (va_Pc [.ref h0, .int 0, .int p0, .int p1] (kPre dC dI [(cI, .int), (cZ, .boolean), (cB, .byte), (cJ, .long), (cM, .object RX2)] [(h0, .inr (8, [.ref s0, .ref s1, .ref s2, .ref s3])), (s0, .inl (cI, 4, .inl (fun _ => 0))), (s1, .inl (cI, 4, .inl (fun _ => 0))), (s2, .inl (cZ, 4, .inl (fun _ => 0))), (s3, .inl (cJ, 240, .inr (.inl (fun _ => 0))))] sz)) (va_Qv (fun _ : Unit => True) (fun _ _ => True) (va_A [(h0, .inr (8, [.ref s0, .ref s1, .ref s2, .ref s3])), (s0, .inl (cI, 4, .inl (fun _ => 0))), (s1, .inl (cI, 4, .inl (fun _ => 0))), (s2, .inl (cZ, 4, .inl (fun _ => 0))), (s3, .inl (cJ, 240, .inr (.inl (fun _ => 0))))] sz)) 0 0 (va_A [(h0, .inr (8, [.ref s0, .ref s1, .ref s2, .ref s3])), (s0, .inl (cI, 4, .inl (fun _ => 0))), (s1, .inl (cI, 4, .inl (fun _ => 0))), (s2, .inl (cZ, 4, .inl (fun _ => 0))), (s3, .inl (cJ, 240, .inr (.inl (fun _ => 0))))] sz) := by
  refine kEnter (by decide) (Nat.le_of_ble_eq_true rfl) ?_
  intro p e s m below meth c ls hx hb hr hml hown hlocks hin hwd hsz hP hK hD hl
  subst hsz
  generalize hAe : va_A [(h0, .inr (8, [.ref s0, .ref s1, .ref s2, .ref s3])), (s0, .inl (cI, 4, .inl (fun _ => 0))), (s1, .inl (cI, 4, .inl (fun _ => 0))), (s2, .inl (cZ, 4, .inl (fun _ => 0))), (s3, .inl (cJ, 240, .inr (.inl (fun _ => 0))))] s.heap.size = A at hD ⊢
  have hA : ∀ q : Nat, s.heap.size ≤ q → A q := fun q h => by rw [← hAe]; exact Or.inr h
  have hS : va_S A s.heap s.heap [] := va_S.rf
  have hl : lv_has ls 5 [(0, .ref h0), (1, .int 0), (2, .int p0), (3, .int p1)] := hl
  refine lv_aload_n hx hb dX8_makeRow_0 rfl (lv_at hl 0 rfl) ?_
  refine va_get (D := (dC, dI)) (ci := 8) (v := .ref s2) (C := RX8) (T := TX8) (N := 4) hx hb hwd inlX8 hown hK hP 0 rfl rfl 2 (by decide) (hwd _ kr4_9) (fun _ h9 => h9) rfl dX8_makeRow_1 ?_
  refine lv_iload_n hx hb dX8_makeRow_4 rfl (lv_at hl 1 rfl) ?_
  refine lv_iconst (v := 1) hx hb dX8_makeRow_5 (by decide) ?_
  refine va_zast hx hb hK hP hD hS 3 1 rfl rfl (vin (by decide)) dX8_makeRow_6 (fun H locs hP hD hS => ?_)
  have hP : va_P (dC, dI) vwCl [(h0, .inr (8, [.ref s0, .ref s1, .ref s2, .ref s3])), (s0, .inl (cI, 4, .inl (fun _ => 0))), (s1, .inl (cI, 4, .inl (fun _ => 0))), (s2, .inl (cZ, 4, .inl (upd (fun _ => 0) 0 1))), (s3, .inl (cJ, 240, .inr (.inl (fun _ => 0))))] H := hP
  have hD : va_D A [(h0, .inr (8, [.ref s0, .ref s1, .ref s2, .ref s3])), (s0, .inl (cI, 4, .inl (fun _ => 0))), (s1, .inl (cI, 4, .inl (fun _ => 0))), (s2, .inl (cZ, 4, .inl (upd (fun _ => 0) 0 1))), (s3, .inl (cJ, 240, .inr (.inl (fun _ => 0))))] := hD
  refine lv_aload_n hx hb dX8_makeRow_7 rfl (lv_at hl 0 rfl) ?_
  refine va_get (D := (dC, dI)) (ci := 8) (v := .ref s0) (C := RX8) (T := TX8) (N := 4) hx hb hwd inlX8 hown hK hP 0 rfl rfl 0 (by decide) (hwd _ kr4_7) (fun _ h9 => h9) rfl dX8_makeRow_8 ?_
  refine lv_iload_n hx hb dX8_makeRow_11 rfl (lv_at hl 1 rfl) ?_
  refine lv_iload_n hx hb dX8_makeRow_12 rfl (lv_at hl 2 rfl) ?_
  refine va_iast hx hb hK hP hD hS 1 0 rfl rfl (vin (by decide)) dX8_makeRow_13 (fun H locs hP hD hS => ?_)
  obtain ⟨f1, ef1⟩ : ∃ f, f = upd (fun _ => 0) (0 : Int32).toNatClampNeg p0 := ⟨_, rfl⟩
  have hP : va_P (dC, dI) vwCl [(h0, .inr (8, [.ref s0, .ref s1, .ref s2, .ref s3])), (s0, .inl (cI, 4, .inl f1)), (s1, .inl (cI, 4, .inl (fun _ => 0))), (s2, .inl (cZ, 4, .inl (upd (fun _ => 0) 0 1))), (s3, .inl (cJ, 240, .inr (.inl (fun _ => 0))))] H := by rw [ef1]; exact hP
  have hD : va_D A [(h0, .inr (8, [.ref s0, .ref s1, .ref s2, .ref s3])), (s0, .inl (cI, 4, .inl f1)), (s1, .inl (cI, 4, .inl (fun _ => 0))), (s2, .inl (cZ, 4, .inl (upd (fun _ => 0) 0 1))), (s3, .inl (cJ, 240, .inr (.inl (fun _ => 0))))] := by rw [ef1]; exact hD
  refine lv_aload_n hx hb dX8_makeRow_14 rfl (lv_at hl 0 rfl) ?_
  refine va_get (D := (dC, dI)) (ci := 8) (v := .ref s1) (C := RX8) (T := TX8) (N := 4) hx hb hwd inlX8 hown hK hP 0 rfl rfl 1 (by decide) (hwd _ kr4_8) (fun _ h9 => h9) rfl dX8_makeRow_15 ?_
  refine lv_iload_n hx hb dX8_makeRow_18 rfl (lv_at hl 1 rfl) ?_
  refine lv_iload_n hx hb dX8_makeRow_19 rfl (lv_at hl 3 rfl) ?_
  refine va_iast hx hb hK hP hD hS 2 0 rfl rfl (vin (by decide)) dX8_makeRow_20 (fun H locs hP hD hS => ?_)
  obtain ⟨f2, ef2⟩ : ∃ f, f = upd (fun _ => 0) (0 : Int32).toNatClampNeg p1 := ⟨_, rfl⟩
  have hP : va_P (dC, dI) vwCl [(h0, .inr (8, [.ref s0, .ref s1, .ref s2, .ref s3])), (s0, .inl (cI, 4, .inl f1)), (s1, .inl (cI, 4, .inl f2)), (s2, .inl (cZ, 4, .inl (upd (fun _ => 0) 0 1))), (s3, .inl (cJ, 240, .inr (.inl (fun _ => 0))))] H := by rw [ef2]; exact hP
  have hD : va_D A [(h0, .inr (8, [.ref s0, .ref s1, .ref s2, .ref s3])), (s0, .inl (cI, 4, .inl f1)), (s1, .inl (cI, 4, .inl f2)), (s2, .inl (cZ, 4, .inl (upd (fun _ => 0) 0 1))), (s3, .inl (cJ, 240, .inr (.inl (fun _ => 0))))] := by rw [ef2]; exact hD
  refine lv_iconst (v := 0) hx hb dX8_makeRow_21 (by decide) ?_
  refine lv_istore (lv' := [(4, .int 0), (0, .ref h0), (1, .int 0), (2, .int p0), (3, .int p1)]) hx hb dX8_makeRow_22 hl (by decide) rfl (fun ls hl => ?_)
  have hl0 : lv_has ls 5 [(0, .ref h0), (1, .int 0), (2, .int p0), (3, .int p1), (4, .int (nI 0))] := lv_sub hl [1, 2, 3, 4, 0] rfl
  refine lp_c_X8_makeRow_0_0 hx hb hown hwd hK (fun H locs ls g hP hD hS hl => ?_) 60 0 (by omega) _ _ ls (fun _ => 0) hP hD hS hl0
  exact W.vret hx hb hr (fun t ht hW => ⟨⟨(), rfl, trivial, trivial⟩, hS.F ht⟩) hS.2.2 dX8_makeRow_50
set_option maxHeartbeats 4000000 in
set_option maxRecDepth 100000 in
theorem lp_c_X8_makeRow_1_0 {p : Program} {l : Launch} {e : Env} {R : Room} {s : State} {m : MethodId} {args : Array Value} {below : List Frame} {meth : Method} {c : Code} {A : Nat → Prop} {cells slots : Nat} {Q : State → Prop} {dC : Nat → ClassId} {dI : Nat → Nat → Nat} {cI cZ cB cJ cM : ClassId} {h0 s0 s1 s2 s3 : Nat} {p0 p1 : Int32}  {f1 : Nat → Int32} {f2 : Nat → Int32} (hx : p.tables.exec = Jvm.exec) (hb : c.code = cX8_makeRow) (hown : s.vm.findClass RX8 = some m.cls) (hwd : ∀ wd ∈ wsL_law, wd.before args s = true) (hK : va_K (dC, dI) vwCl [(cI, .int), (cZ, .boolean), (cB, .byte), (cJ, .long), (cM, .object RX2)] s) (kx : ∀ (H : Heap) (locs : List Loc) (ls : Array Slot) (g : Nat → Int64), va_P (dC, dI) vwCl [(h0, .inr (8, [.ref s0, .ref s1, .ref s2, .ref s3])), (s0, .inl (cI, 4, .inl f1)), (s1, .inl (cI, 4, .inl f2)), (s2, .inl (cZ, 4, .inl (upd (fun _ => 0) 1 1))), (s3, .inl (cJ, 240, .inr (.inl g)))] H → va_D A [(h0, .inr (8, [.ref s0, .ref s1, .ref s2, .ref s3])), (s0, .inl (cI, 4, .inl f1)), (s1, .inl (cI, 4, .inl f2)), (s2, .inl (cZ, 4, .inl (upd (fun _ => 0) 1 1))), (s3, .inl (cJ, 240, .inr (.inl g)))] → va_S A s.heap H locs → lv_has ls 5 [(0, .ref h0), (1, .int 1), (2, .int p0), (3, .int p1), (4, .int (nI 60))] → W p l e R s m args below meth c H locs cells slots Q (F0 m 50 ls [])) : ∀ (d i : Nat), i + d = 60 → ∀ (H : Heap) (locs : List Loc) (ls : Array Slot) (g : Nat → Int64), va_P (dC, dI) vwCl [(h0, .inr (8, [.ref s0, .ref s1, .ref s2, .ref s3])), (s0, .inl (cI, 4, .inl f1)), (s1, .inl (cI, 4, .inl f2)), (s2, .inl (cZ, 4, .inl (upd (fun _ => 0) 1 1))), (s3, .inl (cJ, 240, .inr (.inl g)))] H → va_D A [(h0, .inr (8, [.ref s0, .ref s1, .ref s2, .ref s3])), (s0, .inl (cI, 4, .inl f1)), (s1, .inl (cI, 4, .inl f2)), (s2, .inl (cZ, 4, .inl (upd (fun _ => 0) 1 1))), (s3, .inl (cJ, 240, .inr (.inl g)))] → va_S A s.heap H locs → lv_has ls 5 [(0, .ref h0), (1, .int 1), (2, .int p0), (3, .int p1), (4, .int (nI i))] → W p l e R s m args below meth c H locs cells slots Q (F0 m 24 ls []) := by
  intro d
  induction d with
  | zero =>
    intro i h1 H locs ls g hP hD hS hl
    obtain rfl : i = 60 := by omega
    refine lv_iload hx hb dX8_makeRow_24 (lv_at hl 4 rfl) ?_
    refine lv_bipush (v := 60) hx hb dX8_makeRow_26 (by decide) ?_
    refine lv_icmp_ge (tgt := 50) hx hb dX8_makeRow_28 (by decide) (fun c1 => ?_) (fun c1 => absurd c1 (by decide))
    exact kx H locs ls g hP hD hS hl
  | succ d ih =>
    intro i h1 H locs ls g hP hD hS hl
    have hi : i < 60 := by omega
    refine lv_iload hx hb dX8_makeRow_24 (lv_at hl 4 rfl) ?_
    refine lv_bipush (v := 60) hx hb dX8_makeRow_26 (by decide) ?_
    refine lv_icmp_ge (tgt := 50) hx hb dX8_makeRow_28 (by decide) (fun c1 => absurd c1 (show ¬ nI 60 ≤ nI i from nI_ge hi (by decide))) (fun c1 => ?_)
    refine lv_aload_n hx hb dX8_makeRow_31 rfl (lv_at hl 0 rfl) ?_
    refine va_get (D := (dC, dI)) (ci := 8) (v := .ref s3) (C := RX8) (T := TX8) (N := 4) hx hb hwd inlX8 hown hK hP 0 rfl rfl 3 (by decide) (hwd _ kr4_11) (fun _ h9 => h9) rfl dX8_makeRow_32 ?_
    refine lv_iload_n hx hb dX8_makeRow_35 rfl (lv_at hl 1 rfl) ?_
    refine lv_bipush (v := 60) hx hb dX8_makeRow_36 (by decide) ?_
    refine lv_imul hx hb dX8_makeRow_38 ?_
    refine lv_topi (nm_r (e' := (60)) (by decide +kernel) ?_)
    refine lv_iload hx hb dX8_makeRow_39 (lv_at hl 4 rfl) ?_
    refine lv_iadd hx hb dX8_makeRow_41 ?_
    refine lv_topi (fun x103 ex103 => ?_)
    refine lv_lconst (v := 0) hx hb dX8_makeRow_42 (by decide) ?_
    refine va_last hx hb hK hP hD hS 4 3 rfl rfl (by rw [ex103]; exact (show vp_in (nI 60 + nI i) 240 from vp_base 60 i 240 (by omega) (by decide))) dX8_makeRow_43 (fun H locs hP hD hS => ?_)
    obtain ⟨f104, ef104⟩ : ∃ f, f = vp_updL g x103.toNatClampNeg 0 := ⟨_, rfl⟩
    have hP : va_P (dC, dI) vwCl [(h0, .inr (8, [.ref s0, .ref s1, .ref s2, .ref s3])), (s0, .inl (cI, 4, .inl f1)), (s1, .inl (cI, 4, .inl f2)), (s2, .inl (cZ, 4, .inl (upd (fun _ => 0) 1 1))), (s3, .inl (cJ, 240, .inr (.inl f104)))] H := by rw [ef104]; exact hP
    have hD : va_D A [(h0, .inr (8, [.ref s0, .ref s1, .ref s2, .ref s3])), (s0, .inl (cI, 4, .inl f1)), (s1, .inl (cI, 4, .inl f2)), (s2, .inl (cZ, 4, .inl (upd (fun _ => 0) 1 1))), (s3, .inl (cJ, 240, .inr (.inl f104)))] := by rw [ef104]; exact hD
    refine lv_iinc (v := nI (i + 1)) (lv' := [(4, .int (nI (i + 1))), (0, .ref h0), (1, .int 1), (2, .int p0), (3, .int p1)]) hx hb dX8_makeRow_44 hl (k := 4) rfl (nI_1 i) (by decide) rfl (fun ls hl => ?_)
    refine lv_goto (tgt := 24) hx hb dX8_makeRow_47 (by decide) ?_
    exact ih (i + 1) (by omega) H locs ls f104 hP hD hS (lv_sub hl [1, 2, 3, 4, 0] rfl)
set_option maxHeartbeats 4000000 in
set_option maxRecDepth 100000 in
theorem c_X8_makeRow_1 (l : Launch) (dC : Nat → ClassId) (dI : Nat → Nat → Nat) (cI cZ cB cJ cM : ClassId) (h0 s0 s1 s2 s3 : Nat) (p0 p1 : Int32) (sz : Nat) : Met l yX8_makeRow (kw yX8_makeRow cX8_makeRow 5 none) ({ frames := 0, cells := 0, slots := 0, locals := 0 }) (va_Pc [.ref h0, .int 1, .int p0, .int p1] (kPre dC dI [(cI, .int), (cZ, .boolean), (cB, .byte), (cJ, .long), (cM, .object RX2)] [(h0, .inr (8, [.ref s0, .ref s1, .ref s2, .ref s3])), (s0, .inl (cI, 4, .inl (fun _ => 0))), (s1, .inl (cI, 4, .inl (fun _ => 0))), (s2, .inl (cZ, 4, .inl (fun _ => 0))), (s3, .inl (cJ, 240, .inr (.inl (fun _ => 0))))] sz)) (va_Qv (fun _ : Unit => True) (fun _ _ => True) (va_A [(h0, .inr (8, [.ref s0, .ref s1, .ref s2, .ref s3])), (s0, .inl (cI, 4, .inl (fun _ => 0))), (s1, .inl (cI, 4, .inl (fun _ => 0))), (s2, .inl (cZ, 4, .inl (fun _ => 0))), (s3, .inl (cJ, 240, .inr (.inl (fun _ => 0))))] sz)) 0 0 (va_A [(h0, .inr (8, [.ref s0, .ref s1, .ref s2, .ref s3])), (s0, .inl (cI, 4, .inl (fun _ => 0))), (s1, .inl (cI, 4, .inl (fun _ => 0))), (s2, .inl (cZ, 4, .inl (fun _ => 0))), (s3, .inl (cJ, 240, .inr (.inl (fun _ => 0))))] sz) := by
  refine kEnter (by decide) (Nat.le_of_ble_eq_true rfl) ?_
  intro p e s m below meth c ls hx hb hr hml hown hlocks hin hwd hsz hP hK hD hl
  subst hsz
  generalize hAe : va_A [(h0, .inr (8, [.ref s0, .ref s1, .ref s2, .ref s3])), (s0, .inl (cI, 4, .inl (fun _ => 0))), (s1, .inl (cI, 4, .inl (fun _ => 0))), (s2, .inl (cZ, 4, .inl (fun _ => 0))), (s3, .inl (cJ, 240, .inr (.inl (fun _ => 0))))] s.heap.size = A at hD ⊢
  have hA : ∀ q : Nat, s.heap.size ≤ q → A q := fun q h => by rw [← hAe]; exact Or.inr h
  have hS : va_S A s.heap s.heap [] := va_S.rf
  have hl : lv_has ls 5 [(0, .ref h0), (1, .int 1), (2, .int p0), (3, .int p1)] := hl
  refine lv_aload_n hx hb dX8_makeRow_0 rfl (lv_at hl 0 rfl) ?_
  refine va_get (D := (dC, dI)) (ci := 8) (v := .ref s2) (C := RX8) (T := TX8) (N := 4) hx hb hwd inlX8 hown hK hP 0 rfl rfl 2 (by decide) (hwd _ kr4_9) (fun _ h9 => h9) rfl dX8_makeRow_1 ?_
  refine lv_iload_n hx hb dX8_makeRow_4 rfl (lv_at hl 1 rfl) ?_
  refine lv_iconst (v := 1) hx hb dX8_makeRow_5 (by decide) ?_
  refine va_zast hx hb hK hP hD hS 3 1 rfl rfl (vin (by decide)) dX8_makeRow_6 (fun H locs hP hD hS => ?_)
  have hP : va_P (dC, dI) vwCl [(h0, .inr (8, [.ref s0, .ref s1, .ref s2, .ref s3])), (s0, .inl (cI, 4, .inl (fun _ => 0))), (s1, .inl (cI, 4, .inl (fun _ => 0))), (s2, .inl (cZ, 4, .inl (upd (fun _ => 0) 1 1))), (s3, .inl (cJ, 240, .inr (.inl (fun _ => 0))))] H := hP
  have hD : va_D A [(h0, .inr (8, [.ref s0, .ref s1, .ref s2, .ref s3])), (s0, .inl (cI, 4, .inl (fun _ => 0))), (s1, .inl (cI, 4, .inl (fun _ => 0))), (s2, .inl (cZ, 4, .inl (upd (fun _ => 0) 1 1))), (s3, .inl (cJ, 240, .inr (.inl (fun _ => 0))))] := hD
  refine lv_aload_n hx hb dX8_makeRow_7 rfl (lv_at hl 0 rfl) ?_
  refine va_get (D := (dC, dI)) (ci := 8) (v := .ref s0) (C := RX8) (T := TX8) (N := 4) hx hb hwd inlX8 hown hK hP 0 rfl rfl 0 (by decide) (hwd _ kr4_7) (fun _ h9 => h9) rfl dX8_makeRow_8 ?_
  refine lv_iload_n hx hb dX8_makeRow_11 rfl (lv_at hl 1 rfl) ?_
  refine lv_iload_n hx hb dX8_makeRow_12 rfl (lv_at hl 2 rfl) ?_
  refine va_iast hx hb hK hP hD hS 1 0 rfl rfl (vin (by decide)) dX8_makeRow_13 (fun H locs hP hD hS => ?_)
  obtain ⟨f1, ef1⟩ : ∃ f, f = upd (fun _ => 0) (1 : Int32).toNatClampNeg p0 := ⟨_, rfl⟩
  have hP : va_P (dC, dI) vwCl [(h0, .inr (8, [.ref s0, .ref s1, .ref s2, .ref s3])), (s0, .inl (cI, 4, .inl f1)), (s1, .inl (cI, 4, .inl (fun _ => 0))), (s2, .inl (cZ, 4, .inl (upd (fun _ => 0) 1 1))), (s3, .inl (cJ, 240, .inr (.inl (fun _ => 0))))] H := by rw [ef1]; exact hP
  have hD : va_D A [(h0, .inr (8, [.ref s0, .ref s1, .ref s2, .ref s3])), (s0, .inl (cI, 4, .inl f1)), (s1, .inl (cI, 4, .inl (fun _ => 0))), (s2, .inl (cZ, 4, .inl (upd (fun _ => 0) 1 1))), (s3, .inl (cJ, 240, .inr (.inl (fun _ => 0))))] := by rw [ef1]; exact hD
  refine lv_aload_n hx hb dX8_makeRow_14 rfl (lv_at hl 0 rfl) ?_
  refine va_get (D := (dC, dI)) (ci := 8) (v := .ref s1) (C := RX8) (T := TX8) (N := 4) hx hb hwd inlX8 hown hK hP 0 rfl rfl 1 (by decide) (hwd _ kr4_8) (fun _ h9 => h9) rfl dX8_makeRow_15 ?_
  refine lv_iload_n hx hb dX8_makeRow_18 rfl (lv_at hl 1 rfl) ?_
  refine lv_iload_n hx hb dX8_makeRow_19 rfl (lv_at hl 3 rfl) ?_
  refine va_iast hx hb hK hP hD hS 2 0 rfl rfl (vin (by decide)) dX8_makeRow_20 (fun H locs hP hD hS => ?_)
  obtain ⟨f2, ef2⟩ : ∃ f, f = upd (fun _ => 0) (1 : Int32).toNatClampNeg p1 := ⟨_, rfl⟩
  have hP : va_P (dC, dI) vwCl [(h0, .inr (8, [.ref s0, .ref s1, .ref s2, .ref s3])), (s0, .inl (cI, 4, .inl f1)), (s1, .inl (cI, 4, .inl f2)), (s2, .inl (cZ, 4, .inl (upd (fun _ => 0) 1 1))), (s3, .inl (cJ, 240, .inr (.inl (fun _ => 0))))] H := by rw [ef2]; exact hP
  have hD : va_D A [(h0, .inr (8, [.ref s0, .ref s1, .ref s2, .ref s3])), (s0, .inl (cI, 4, .inl f1)), (s1, .inl (cI, 4, .inl f2)), (s2, .inl (cZ, 4, .inl (upd (fun _ => 0) 1 1))), (s3, .inl (cJ, 240, .inr (.inl (fun _ => 0))))] := by rw [ef2]; exact hD
  refine lv_iconst (v := 0) hx hb dX8_makeRow_21 (by decide) ?_
  refine lv_istore (lv' := [(4, .int 0), (0, .ref h0), (1, .int 1), (2, .int p0), (3, .int p1)]) hx hb dX8_makeRow_22 hl (by decide) rfl (fun ls hl => ?_)
  have hl0 : lv_has ls 5 [(0, .ref h0), (1, .int 1), (2, .int p0), (3, .int p1), (4, .int (nI 0))] := lv_sub hl [1, 2, 3, 4, 0] rfl
  refine lp_c_X8_makeRow_1_0 hx hb hown hwd hK (fun H locs ls g hP hD hS hl => ?_) 60 0 (by omega) _ _ ls (fun _ => 0) hP hD hS hl0
  exact W.vret hx hb hr (fun t ht hW => ⟨⟨(), rfl, trivial, trivial⟩, hS.F ht⟩) hS.2.2 dX8_makeRow_50
set_option maxHeartbeats 4000000 in
set_option maxRecDepth 100000 in
theorem lp_c_X8_makeRow_2_0 {p : Program} {l : Launch} {e : Env} {R : Room} {s : State} {m : MethodId} {args : Array Value} {below : List Frame} {meth : Method} {c : Code} {A : Nat → Prop} {cells slots : Nat} {Q : State → Prop} {dC : Nat → ClassId} {dI : Nat → Nat → Nat} {cI cZ cB cJ cM : ClassId} {h0 s0 s1 s2 s3 : Nat} {p0 p1 : Int32}  {f1 : Nat → Int32} {f2 : Nat → Int32} (hx : p.tables.exec = Jvm.exec) (hb : c.code = cX8_makeRow) (hown : s.vm.findClass RX8 = some m.cls) (hwd : ∀ wd ∈ wsL_law, wd.before args s = true) (hK : va_K (dC, dI) vwCl [(cI, .int), (cZ, .boolean), (cB, .byte), (cJ, .long), (cM, .object RX2)] s) (kx : ∀ (H : Heap) (locs : List Loc) (ls : Array Slot) (g : Nat → Int64), va_P (dC, dI) vwCl [(h0, .inr (8, [.ref s0, .ref s1, .ref s2, .ref s3])), (s0, .inl (cI, 4, .inl f1)), (s1, .inl (cI, 4, .inl f2)), (s2, .inl (cZ, 4, .inl (upd (fun _ => 0) 2 1))), (s3, .inl (cJ, 240, .inr (.inl g)))] H → va_D A [(h0, .inr (8, [.ref s0, .ref s1, .ref s2, .ref s3])), (s0, .inl (cI, 4, .inl f1)), (s1, .inl (cI, 4, .inl f2)), (s2, .inl (cZ, 4, .inl (upd (fun _ => 0) 2 1))), (s3, .inl (cJ, 240, .inr (.inl g)))] → va_S A s.heap H locs → lv_has ls 5 [(0, .ref h0), (1, .int 2), (2, .int p0), (3, .int p1), (4, .int (nI 60))] → W p l e R s m args below meth c H locs cells slots Q (F0 m 50 ls [])) : ∀ (d i : Nat), i + d = 60 → ∀ (H : Heap) (locs : List Loc) (ls : Array Slot) (g : Nat → Int64), va_P (dC, dI) vwCl [(h0, .inr (8, [.ref s0, .ref s1, .ref s2, .ref s3])), (s0, .inl (cI, 4, .inl f1)), (s1, .inl (cI, 4, .inl f2)), (s2, .inl (cZ, 4, .inl (upd (fun _ => 0) 2 1))), (s3, .inl (cJ, 240, .inr (.inl g)))] H → va_D A [(h0, .inr (8, [.ref s0, .ref s1, .ref s2, .ref s3])), (s0, .inl (cI, 4, .inl f1)), (s1, .inl (cI, 4, .inl f2)), (s2, .inl (cZ, 4, .inl (upd (fun _ => 0) 2 1))), (s3, .inl (cJ, 240, .inr (.inl g)))] → va_S A s.heap H locs → lv_has ls 5 [(0, .ref h0), (1, .int 2), (2, .int p0), (3, .int p1), (4, .int (nI i))] → W p l e R s m args below meth c H locs cells slots Q (F0 m 24 ls []) := by
  intro d
  induction d with
  | zero =>
    intro i h1 H locs ls g hP hD hS hl
    obtain rfl : i = 60 := by omega
    refine lv_iload hx hb dX8_makeRow_24 (lv_at hl 4 rfl) ?_
    refine lv_bipush (v := 60) hx hb dX8_makeRow_26 (by decide) ?_
    refine lv_icmp_ge (tgt := 50) hx hb dX8_makeRow_28 (by decide) (fun c1 => ?_) (fun c1 => absurd c1 (by decide))
    exact kx H locs ls g hP hD hS hl
  | succ d ih =>
    intro i h1 H locs ls g hP hD hS hl
    have hi : i < 60 := by omega
    refine lv_iload hx hb dX8_makeRow_24 (lv_at hl 4 rfl) ?_
    refine lv_bipush (v := 60) hx hb dX8_makeRow_26 (by decide) ?_
    refine lv_icmp_ge (tgt := 50) hx hb dX8_makeRow_28 (by decide) (fun c1 => absurd c1 (show ¬ nI 60 ≤ nI i from nI_ge hi (by decide))) (fun c1 => ?_)
    refine lv_aload_n hx hb dX8_makeRow_31 rfl (lv_at hl 0 rfl) ?_
    refine va_get (D := (dC, dI)) (ci := 8) (v := .ref s3) (C := RX8) (T := TX8) (N := 4) hx hb hwd inlX8 hown hK hP 0 rfl rfl 3 (by decide) (hwd _ kr4_11) (fun _ h9 => h9) rfl dX8_makeRow_32 ?_
    refine lv_iload_n hx hb dX8_makeRow_35 rfl (lv_at hl 1 rfl) ?_
    refine lv_bipush (v := 60) hx hb dX8_makeRow_36 (by decide) ?_
    refine lv_imul hx hb dX8_makeRow_38 ?_
    refine lv_topi (nm_r (e' := (120)) (by decide +kernel) ?_)
    refine lv_iload hx hb dX8_makeRow_39 (lv_at hl 4 rfl) ?_
    refine lv_iadd hx hb dX8_makeRow_41 ?_
    refine lv_topi (fun x103 ex103 => ?_)
    refine lv_lconst (v := 0) hx hb dX8_makeRow_42 (by decide) ?_
    refine va_last hx hb hK hP hD hS 4 3 rfl rfl (by rw [ex103]; exact (show vp_in (nI 120 + nI i) 240 from vp_base 120 i 240 (by omega) (by decide))) dX8_makeRow_43 (fun H locs hP hD hS => ?_)
    obtain ⟨f104, ef104⟩ : ∃ f, f = vp_updL g x103.toNatClampNeg 0 := ⟨_, rfl⟩
    have hP : va_P (dC, dI) vwCl [(h0, .inr (8, [.ref s0, .ref s1, .ref s2, .ref s3])), (s0, .inl (cI, 4, .inl f1)), (s1, .inl (cI, 4, .inl f2)), (s2, .inl (cZ, 4, .inl (upd (fun _ => 0) 2 1))), (s3, .inl (cJ, 240, .inr (.inl f104)))] H := by rw [ef104]; exact hP
    have hD : va_D A [(h0, .inr (8, [.ref s0, .ref s1, .ref s2, .ref s3])), (s0, .inl (cI, 4, .inl f1)), (s1, .inl (cI, 4, .inl f2)), (s2, .inl (cZ, 4, .inl (upd (fun _ => 0) 2 1))), (s3, .inl (cJ, 240, .inr (.inl f104)))] := by rw [ef104]; exact hD
    refine lv_iinc (v := nI (i + 1)) (lv' := [(4, .int (nI (i + 1))), (0, .ref h0), (1, .int 2), (2, .int p0), (3, .int p1)]) hx hb dX8_makeRow_44 hl (k := 4) rfl (nI_1 i) (by decide) rfl (fun ls hl => ?_)
    refine lv_goto (tgt := 24) hx hb dX8_makeRow_47 (by decide) ?_
    exact ih (i + 1) (by omega) H locs ls f104 hP hD hS (lv_sub hl [1, 2, 3, 4, 0] rfl)
set_option maxHeartbeats 4000000 in
set_option maxRecDepth 100000 in
theorem c_X8_makeRow_2 (l : Launch) (dC : Nat → ClassId) (dI : Nat → Nat → Nat) (cI cZ cB cJ cM : ClassId) (h0 s0 s1 s2 s3 : Nat) (p0 p1 : Int32) (sz : Nat) : Met l yX8_makeRow (kw yX8_makeRow cX8_makeRow 5 none) ({ frames := 0, cells := 0, slots := 0, locals := 0 }) (va_Pc [.ref h0, .int 2, .int p0, .int p1] (kPre dC dI [(cI, .int), (cZ, .boolean), (cB, .byte), (cJ, .long), (cM, .object RX2)] [(h0, .inr (8, [.ref s0, .ref s1, .ref s2, .ref s3])), (s0, .inl (cI, 4, .inl (fun _ => 0))), (s1, .inl (cI, 4, .inl (fun _ => 0))), (s2, .inl (cZ, 4, .inl (fun _ => 0))), (s3, .inl (cJ, 240, .inr (.inl (fun _ => 0))))] sz)) (va_Qv (fun _ : Unit => True) (fun _ _ => True) (va_A [(h0, .inr (8, [.ref s0, .ref s1, .ref s2, .ref s3])), (s0, .inl (cI, 4, .inl (fun _ => 0))), (s1, .inl (cI, 4, .inl (fun _ => 0))), (s2, .inl (cZ, 4, .inl (fun _ => 0))), (s3, .inl (cJ, 240, .inr (.inl (fun _ => 0))))] sz)) 0 0 (va_A [(h0, .inr (8, [.ref s0, .ref s1, .ref s2, .ref s3])), (s0, .inl (cI, 4, .inl (fun _ => 0))), (s1, .inl (cI, 4, .inl (fun _ => 0))), (s2, .inl (cZ, 4, .inl (fun _ => 0))), (s3, .inl (cJ, 240, .inr (.inl (fun _ => 0))))] sz) := by
  refine kEnter (by decide) (Nat.le_of_ble_eq_true rfl) ?_
  intro p e s m below meth c ls hx hb hr hml hown hlocks hin hwd hsz hP hK hD hl
  subst hsz
  generalize hAe : va_A [(h0, .inr (8, [.ref s0, .ref s1, .ref s2, .ref s3])), (s0, .inl (cI, 4, .inl (fun _ => 0))), (s1, .inl (cI, 4, .inl (fun _ => 0))), (s2, .inl (cZ, 4, .inl (fun _ => 0))), (s3, .inl (cJ, 240, .inr (.inl (fun _ => 0))))] s.heap.size = A at hD ⊢
  have hA : ∀ q : Nat, s.heap.size ≤ q → A q := fun q h => by rw [← hAe]; exact Or.inr h
  have hS : va_S A s.heap s.heap [] := va_S.rf
  have hl : lv_has ls 5 [(0, .ref h0), (1, .int 2), (2, .int p0), (3, .int p1)] := hl
  refine lv_aload_n hx hb dX8_makeRow_0 rfl (lv_at hl 0 rfl) ?_
  refine va_get (D := (dC, dI)) (ci := 8) (v := .ref s2) (C := RX8) (T := TX8) (N := 4) hx hb hwd inlX8 hown hK hP 0 rfl rfl 2 (by decide) (hwd _ kr4_9) (fun _ h9 => h9) rfl dX8_makeRow_1 ?_
  refine lv_iload_n hx hb dX8_makeRow_4 rfl (lv_at hl 1 rfl) ?_
  refine lv_iconst (v := 1) hx hb dX8_makeRow_5 (by decide) ?_
  refine va_zast hx hb hK hP hD hS 3 1 rfl rfl (vin (by decide)) dX8_makeRow_6 (fun H locs hP hD hS => ?_)
  have hP : va_P (dC, dI) vwCl [(h0, .inr (8, [.ref s0, .ref s1, .ref s2, .ref s3])), (s0, .inl (cI, 4, .inl (fun _ => 0))), (s1, .inl (cI, 4, .inl (fun _ => 0))), (s2, .inl (cZ, 4, .inl (upd (fun _ => 0) 2 1))), (s3, .inl (cJ, 240, .inr (.inl (fun _ => 0))))] H := hP
  have hD : va_D A [(h0, .inr (8, [.ref s0, .ref s1, .ref s2, .ref s3])), (s0, .inl (cI, 4, .inl (fun _ => 0))), (s1, .inl (cI, 4, .inl (fun _ => 0))), (s2, .inl (cZ, 4, .inl (upd (fun _ => 0) 2 1))), (s3, .inl (cJ, 240, .inr (.inl (fun _ => 0))))] := hD
  refine lv_aload_n hx hb dX8_makeRow_7 rfl (lv_at hl 0 rfl) ?_
  refine va_get (D := (dC, dI)) (ci := 8) (v := .ref s0) (C := RX8) (T := TX8) (N := 4) hx hb hwd inlX8 hown hK hP 0 rfl rfl 0 (by decide) (hwd _ kr4_7) (fun _ h9 => h9) rfl dX8_makeRow_8 ?_
  refine lv_iload_n hx hb dX8_makeRow_11 rfl (lv_at hl 1 rfl) ?_
  refine lv_iload_n hx hb dX8_makeRow_12 rfl (lv_at hl 2 rfl) ?_
  refine va_iast hx hb hK hP hD hS 1 0 rfl rfl (vin (by decide)) dX8_makeRow_13 (fun H locs hP hD hS => ?_)
  obtain ⟨f1, ef1⟩ : ∃ f, f = upd (fun _ => 0) (2 : Int32).toNatClampNeg p0 := ⟨_, rfl⟩
  have hP : va_P (dC, dI) vwCl [(h0, .inr (8, [.ref s0, .ref s1, .ref s2, .ref s3])), (s0, .inl (cI, 4, .inl f1)), (s1, .inl (cI, 4, .inl (fun _ => 0))), (s2, .inl (cZ, 4, .inl (upd (fun _ => 0) 2 1))), (s3, .inl (cJ, 240, .inr (.inl (fun _ => 0))))] H := by rw [ef1]; exact hP
  have hD : va_D A [(h0, .inr (8, [.ref s0, .ref s1, .ref s2, .ref s3])), (s0, .inl (cI, 4, .inl f1)), (s1, .inl (cI, 4, .inl (fun _ => 0))), (s2, .inl (cZ, 4, .inl (upd (fun _ => 0) 2 1))), (s3, .inl (cJ, 240, .inr (.inl (fun _ => 0))))] := by rw [ef1]; exact hD
  refine lv_aload_n hx hb dX8_makeRow_14 rfl (lv_at hl 0 rfl) ?_
  refine va_get (D := (dC, dI)) (ci := 8) (v := .ref s1) (C := RX8) (T := TX8) (N := 4) hx hb hwd inlX8 hown hK hP 0 rfl rfl 1 (by decide) (hwd _ kr4_8) (fun _ h9 => h9) rfl dX8_makeRow_15 ?_
  refine lv_iload_n hx hb dX8_makeRow_18 rfl (lv_at hl 1 rfl) ?_
  refine lv_iload_n hx hb dX8_makeRow_19 rfl (lv_at hl 3 rfl) ?_
  refine va_iast hx hb hK hP hD hS 2 0 rfl rfl (vin (by decide)) dX8_makeRow_20 (fun H locs hP hD hS => ?_)
  obtain ⟨f2, ef2⟩ : ∃ f, f = upd (fun _ => 0) (2 : Int32).toNatClampNeg p1 := ⟨_, rfl⟩
  have hP : va_P (dC, dI) vwCl [(h0, .inr (8, [.ref s0, .ref s1, .ref s2, .ref s3])), (s0, .inl (cI, 4, .inl f1)), (s1, .inl (cI, 4, .inl f2)), (s2, .inl (cZ, 4, .inl (upd (fun _ => 0) 2 1))), (s3, .inl (cJ, 240, .inr (.inl (fun _ => 0))))] H := by rw [ef2]; exact hP
  have hD : va_D A [(h0, .inr (8, [.ref s0, .ref s1, .ref s2, .ref s3])), (s0, .inl (cI, 4, .inl f1)), (s1, .inl (cI, 4, .inl f2)), (s2, .inl (cZ, 4, .inl (upd (fun _ => 0) 2 1))), (s3, .inl (cJ, 240, .inr (.inl (fun _ => 0))))] := by rw [ef2]; exact hD
  refine lv_iconst (v := 0) hx hb dX8_makeRow_21 (by decide) ?_
  refine lv_istore (lv' := [(4, .int 0), (0, .ref h0), (1, .int 2), (2, .int p0), (3, .int p1)]) hx hb dX8_makeRow_22 hl (by decide) rfl (fun ls hl => ?_)
  have hl0 : lv_has ls 5 [(0, .ref h0), (1, .int 2), (2, .int p0), (3, .int p1), (4, .int (nI 0))] := lv_sub hl [1, 2, 3, 4, 0] rfl
  refine lp_c_X8_makeRow_2_0 hx hb hown hwd hK (fun H locs ls g hP hD hS hl => ?_) 60 0 (by omega) _ _ ls (fun _ => 0) hP hD hS hl0
  exact W.vret hx hb hr (fun t ht hW => ⟨⟨(), rfl, trivial, trivial⟩, hS.F ht⟩) hS.2.2 dX8_makeRow_50
set_option maxHeartbeats 4000000 in
set_option maxRecDepth 100000 in
theorem lp_c_X8_makeRow_3_0 {p : Program} {l : Launch} {e : Env} {R : Room} {s : State} {m : MethodId} {args : Array Value} {below : List Frame} {meth : Method} {c : Code} {A : Nat → Prop} {cells slots : Nat} {Q : State → Prop} {dC : Nat → ClassId} {dI : Nat → Nat → Nat} {cI cZ cB cJ cM : ClassId} {h0 s0 s1 s2 s3 : Nat} {p0 p1 : Int32}  {f1 : Nat → Int32} {f2 : Nat → Int32} (hx : p.tables.exec = Jvm.exec) (hb : c.code = cX8_makeRow) (hown : s.vm.findClass RX8 = some m.cls) (hwd : ∀ wd ∈ wsL_law, wd.before args s = true) (hK : va_K (dC, dI) vwCl [(cI, .int), (cZ, .boolean), (cB, .byte), (cJ, .long), (cM, .object RX2)] s) (kx : ∀ (H : Heap) (locs : List Loc) (ls : Array Slot) (g : Nat → Int64), va_P (dC, dI) vwCl [(h0, .inr (8, [.ref s0, .ref s1, .ref s2, .ref s3])), (s0, .inl (cI, 4, .inl f1)), (s1, .inl (cI, 4, .inl f2)), (s2, .inl (cZ, 4, .inl (upd (fun _ => 0) 3 1))), (s3, .inl (cJ, 240, .inr (.inl g)))] H → va_D A [(h0, .inr (8, [.ref s0, .ref s1, .ref s2, .ref s3])), (s0, .inl (cI, 4, .inl f1)), (s1, .inl (cI, 4, .inl f2)), (s2, .inl (cZ, 4, .inl (upd (fun _ => 0) 3 1))), (s3, .inl (cJ, 240, .inr (.inl g)))] → va_S A s.heap H locs → lv_has ls 5 [(0, .ref h0), (1, .int 3), (2, .int p0), (3, .int p1), (4, .int (nI 60))] → W p l e R s m args below meth c H locs cells slots Q (F0 m 50 ls [])) : ∀ (d i : Nat), i + d = 60 → ∀ (H : Heap) (locs : List Loc) (ls : Array Slot) (g : Nat → Int64), va_P (dC, dI) vwCl [(h0, .inr (8, [.ref s0, .ref s1, .ref s2, .ref s3])), (s0, .inl (cI, 4, .inl f1)), (s1, .inl (cI, 4, .inl f2)), (s2, .inl (cZ, 4, .inl (upd (fun _ => 0) 3 1))), (s3, .inl (cJ, 240, .inr (.inl g)))] H → va_D A [(h0, .inr (8, [.ref s0, .ref s1, .ref s2, .ref s3])), (s0, .inl (cI, 4, .inl f1)), (s1, .inl (cI, 4, .inl f2)), (s2, .inl (cZ, 4, .inl (upd (fun _ => 0) 3 1))), (s3, .inl (cJ, 240, .inr (.inl g)))] → va_S A s.heap H locs → lv_has ls 5 [(0, .ref h0), (1, .int 3), (2, .int p0), (3, .int p1), (4, .int (nI i))] → W p l e R s m args below meth c H locs cells slots Q (F0 m 24 ls []) := by
  intro d
  induction d with
  | zero =>
    intro i h1 H locs ls g hP hD hS hl
    obtain rfl : i = 60 := by omega
    refine lv_iload hx hb dX8_makeRow_24 (lv_at hl 4 rfl) ?_
    refine lv_bipush (v := 60) hx hb dX8_makeRow_26 (by decide) ?_
    refine lv_icmp_ge (tgt := 50) hx hb dX8_makeRow_28 (by decide) (fun c1 => ?_) (fun c1 => absurd c1 (by decide))
    exact kx H locs ls g hP hD hS hl
  | succ d ih =>
    intro i h1 H locs ls g hP hD hS hl
    have hi : i < 60 := by omega
    refine lv_iload hx hb dX8_makeRow_24 (lv_at hl 4 rfl) ?_
    refine lv_bipush (v := 60) hx hb dX8_makeRow_26 (by decide) ?_
    refine lv_icmp_ge (tgt := 50) hx hb dX8_makeRow_28 (by decide) (fun c1 => absurd c1 (show ¬ nI 60 ≤ nI i from nI_ge hi (by decide))) (fun c1 => ?_)
    refine lv_aload_n hx hb dX8_makeRow_31 rfl (lv_at hl 0 rfl) ?_
    refine va_get (D := (dC, dI)) (ci := 8) (v := .ref s3) (C := RX8) (T := TX8) (N := 4) hx hb hwd inlX8 hown hK hP 0 rfl rfl 3 (by decide) (hwd _ kr4_11) (fun _ h9 => h9) rfl dX8_makeRow_32 ?_
    refine lv_iload_n hx hb dX8_makeRow_35 rfl (lv_at hl 1 rfl) ?_
    refine lv_bipush (v := 60) hx hb dX8_makeRow_36 (by decide) ?_
    refine lv_imul hx hb dX8_makeRow_38 ?_
    refine lv_topi (nm_r (e' := (180)) (by decide +kernel) ?_)
    refine lv_iload hx hb dX8_makeRow_39 (lv_at hl 4 rfl) ?_
    refine lv_iadd hx hb dX8_makeRow_41 ?_
    refine lv_topi (fun x103 ex103 => ?_)
    refine lv_lconst (v := 0) hx hb dX8_makeRow_42 (by decide) ?_
    refine va_last hx hb hK hP hD hS 4 3 rfl rfl (by rw [ex103]; exact (show vp_in (nI 180 + nI i) 240 from vp_base 180 i 240 (by omega) (by decide))) dX8_makeRow_43 (fun H locs hP hD hS => ?_)
    obtain ⟨f104, ef104⟩ : ∃ f, f = vp_updL g x103.toNatClampNeg 0 := ⟨_, rfl⟩
    have hP : va_P (dC, dI) vwCl [(h0, .inr (8, [.ref s0, .ref s1, .ref s2, .ref s3])), (s0, .inl (cI, 4, .inl f1)), (s1, .inl (cI, 4, .inl f2)), (s2, .inl (cZ, 4, .inl (upd (fun _ => 0) 3 1))), (s3, .inl (cJ, 240, .inr (.inl f104)))] H := by rw [ef104]; exact hP
    have hD : va_D A [(h0, .inr (8, [.ref s0, .ref s1, .ref s2, .ref s3])), (s0, .inl (cI, 4, .inl f1)), (s1, .inl (cI, 4, .inl f2)), (s2, .inl (cZ, 4, .inl (upd (fun _ => 0) 3 1))), (s3, .inl (cJ, 240, .inr (.inl f104)))] := by rw [ef104]; exact hD
    refine lv_iinc (v := nI (i + 1)) (lv' := [(4, .int (nI (i + 1))), (0, .ref h0), (1, .int 3), (2, .int p0), (3, .int p1)]) hx hb dX8_makeRow_44 hl (k := 4) rfl (nI_1 i) (by decide) rfl (fun ls hl => ?_)
    refine lv_goto (tgt := 24) hx hb dX8_makeRow_47 (by decide) ?_
    exact ih (i + 1) (by omega) H locs ls f104 hP hD hS (lv_sub hl [1, 2, 3, 4, 0] rfl)
set_option maxHeartbeats 4000000 in
set_option maxRecDepth 100000 in
theorem c_X8_makeRow_3 (l : Launch) (dC : Nat → ClassId) (dI : Nat → Nat → Nat) (cI cZ cB cJ cM : ClassId) (h0 s0 s1 s2 s3 : Nat) (p0 p1 : Int32) (sz : Nat) : Met l yX8_makeRow (kw yX8_makeRow cX8_makeRow 5 none) ({ frames := 0, cells := 0, slots := 0, locals := 0 }) (va_Pc [.ref h0, .int 3, .int p0, .int p1] (kPre dC dI [(cI, .int), (cZ, .boolean), (cB, .byte), (cJ, .long), (cM, .object RX2)] [(h0, .inr (8, [.ref s0, .ref s1, .ref s2, .ref s3])), (s0, .inl (cI, 4, .inl (fun _ => 0))), (s1, .inl (cI, 4, .inl (fun _ => 0))), (s2, .inl (cZ, 4, .inl (fun _ => 0))), (s3, .inl (cJ, 240, .inr (.inl (fun _ => 0))))] sz)) (va_Qv (fun _ : Unit => True) (fun _ _ => True) (va_A [(h0, .inr (8, [.ref s0, .ref s1, .ref s2, .ref s3])), (s0, .inl (cI, 4, .inl (fun _ => 0))), (s1, .inl (cI, 4, .inl (fun _ => 0))), (s2, .inl (cZ, 4, .inl (fun _ => 0))), (s3, .inl (cJ, 240, .inr (.inl (fun _ => 0))))] sz)) 0 0 (va_A [(h0, .inr (8, [.ref s0, .ref s1, .ref s2, .ref s3])), (s0, .inl (cI, 4, .inl (fun _ => 0))), (s1, .inl (cI, 4, .inl (fun _ => 0))), (s2, .inl (cZ, 4, .inl (fun _ => 0))), (s3, .inl (cJ, 240, .inr (.inl (fun _ => 0))))] sz) := by
  refine kEnter (by decide) (Nat.le_of_ble_eq_true rfl) ?_
  intro p e s m below meth c ls hx hb hr hml hown hlocks hin hwd hsz hP hK hD hl
  subst hsz
  generalize hAe : va_A [(h0, .inr (8, [.ref s0, .ref s1, .ref s2, .ref s3])), (s0, .inl (cI, 4, .inl (fun _ => 0))), (s1, .inl (cI, 4, .inl (fun _ => 0))), (s2, .inl (cZ, 4, .inl (fun _ => 0))), (s3, .inl (cJ, 240, .inr (.inl (fun _ => 0))))] s.heap.size = A at hD ⊢
  have hA : ∀ q : Nat, s.heap.size ≤ q → A q := fun q h => by rw [← hAe]; exact Or.inr h
  have hS : va_S A s.heap s.heap [] := va_S.rf
  have hl : lv_has ls 5 [(0, .ref h0), (1, .int 3), (2, .int p0), (3, .int p1)] := hl
  refine lv_aload_n hx hb dX8_makeRow_0 rfl (lv_at hl 0 rfl) ?_
  refine va_get (D := (dC, dI)) (ci := 8) (v := .ref s2) (C := RX8) (T := TX8) (N := 4) hx hb hwd inlX8 hown hK hP 0 rfl rfl 2 (by decide) (hwd _ kr4_9) (fun _ h9 => h9) rfl dX8_makeRow_1 ?_
  refine lv_iload_n hx hb dX8_makeRow_4 rfl (lv_at hl 1 rfl) ?_
  refine lv_iconst (v := 1) hx hb dX8_makeRow_5 (by decide) ?_
  refine va_zast hx hb hK hP hD hS 3 1 rfl rfl (vin (by decide)) dX8_makeRow_6 (fun H locs hP hD hS => ?_)
  have hP : va_P (dC, dI) vwCl [(h0, .inr (8, [.ref s0, .ref s1, .ref s2, .ref s3])), (s0, .inl (cI, 4, .inl (fun _ => 0))), (s1, .inl (cI, 4, .inl (fun _ => 0))), (s2, .inl (cZ, 4, .inl (upd (fun _ => 0) 3 1))), (s3, .inl (cJ, 240, .inr (.inl (fun _ => 0))))] H := hP
  have hD : va_D A [(h0, .inr (8, [.ref s0, .ref s1, .ref s2, .ref s3])), (s0, .inl (cI, 4, .inl (fun _ => 0))), (s1, .inl (cI, 4, .inl (fun _ => 0))), (s2, .inl (cZ, 4, .inl (upd (fun _ => 0) 3 1))), (s3, .inl (cJ, 240, .inr (.inl (fun _ => 0))))] := hD
  refine lv_aload_n hx hb dX8_makeRow_7 rfl (lv_at hl 0 rfl) ?_
  refine va_get (D := (dC, dI)) (ci := 8) (v := .ref s0) (C := RX8) (T := TX8) (N := 4) hx hb hwd inlX8 hown hK hP 0 rfl rfl 0 (by decide) (hwd _ kr4_7) (fun _ h9 => h9) rfl dX8_makeRow_8 ?_
  refine lv_iload_n hx hb dX8_makeRow_11 rfl (lv_at hl 1 rfl) ?_
  refine lv_iload_n hx hb dX8_makeRow_12 rfl (lv_at hl 2 rfl) ?_
  refine va_iast hx hb hK hP hD hS 1 0 rfl rfl (vin (by decide)) dX8_makeRow_13 (fun H locs hP hD hS => ?_)
  obtain ⟨f1, ef1⟩ : ∃ f, f = upd (fun _ => 0) (3 : Int32).toNatClampNeg p0 := ⟨_, rfl⟩
  have hP : va_P (dC, dI) vwCl [(h0, .inr (8, [.ref s0, .ref s1, .ref s2, .ref s3])), (s0, .inl (cI, 4, .inl f1)), (s1, .inl (cI, 4, .inl (fun _ => 0))), (s2, .inl (cZ, 4, .inl (upd (fun _ => 0) 3 1))), (s3, .inl (cJ, 240, .inr (.inl (fun _ => 0))))] H := by rw [ef1]; exact hP
  have hD : va_D A [(h0, .inr (8, [.ref s0, .ref s1, .ref s2, .ref s3])), (s0, .inl (cI, 4, .inl f1)), (s1, .inl (cI, 4, .inl (fun _ => 0))), (s2, .inl (cZ, 4, .inl (upd (fun _ => 0) 3 1))), (s3, .inl (cJ, 240, .inr (.inl (fun _ => 0))))] := by rw [ef1]; exact hD
  refine lv_aload_n hx hb dX8_makeRow_14 rfl (lv_at hl 0 rfl) ?_
  refine va_get (D := (dC, dI)) (ci := 8) (v := .ref s1) (C := RX8) (T := TX8) (N := 4) hx hb hwd inlX8 hown hK hP 0 rfl rfl 1 (by decide) (hwd _ kr4_8) (fun _ h9 => h9) rfl dX8_makeRow_15 ?_
  refine lv_iload_n hx hb dX8_makeRow_18 rfl (lv_at hl 1 rfl) ?_
  refine lv_iload_n hx hb dX8_makeRow_19 rfl (lv_at hl 3 rfl) ?_
  refine va_iast hx hb hK hP hD hS 2 0 rfl rfl (vin (by decide)) dX8_makeRow_20 (fun H locs hP hD hS => ?_)
  obtain ⟨f2, ef2⟩ : ∃ f, f = upd (fun _ => 0) (3 : Int32).toNatClampNeg p1 := ⟨_, rfl⟩
  have hP : va_P (dC, dI) vwCl [(h0, .inr (8, [.ref s0, .ref s1, .ref s2, .ref s3])), (s0, .inl (cI, 4, .inl f1)), (s1, .inl (cI, 4, .inl f2)), (s2, .inl (cZ, 4, .inl (upd (fun _ => 0) 3 1))), (s3, .inl (cJ, 240, .inr (.inl (fun _ => 0))))] H := by rw [ef2]; exact hP
  have hD : va_D A [(h0, .inr (8, [.ref s0, .ref s1, .ref s2, .ref s3])), (s0, .inl (cI, 4, .inl f1)), (s1, .inl (cI, 4, .inl f2)), (s2, .inl (cZ, 4, .inl (upd (fun _ => 0) 3 1))), (s3, .inl (cJ, 240, .inr (.inl (fun _ => 0))))] := by rw [ef2]; exact hD
  refine lv_iconst (v := 0) hx hb dX8_makeRow_21 (by decide) ?_
  refine lv_istore (lv' := [(4, .int 0), (0, .ref h0), (1, .int 3), (2, .int p0), (3, .int p1)]) hx hb dX8_makeRow_22 hl (by decide) rfl (fun ls hl => ?_)
  have hl0 : lv_has ls 5 [(0, .ref h0), (1, .int 3), (2, .int p0), (3, .int p1), (4, .int (nI 0))] := lv_sub hl [1, 2, 3, 4, 0] rfl
  refine lp_c_X8_makeRow_3_0 hx hb hown hwd hK (fun H locs ls g hP hD hS hl => ?_) 60 0 (by omega) _ _ ls (fun _ => 0) hP hD hS hl0
  exact W.vret hx hb hr (fun t ht hW => ⟨⟨(), rfl, trivial, trivial⟩, hS.F ht⟩) hS.2.2 dX8_makeRow_50
