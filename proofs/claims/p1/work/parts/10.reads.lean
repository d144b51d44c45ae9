theorem dX2_hasFollower_0 : decode cX2_hasFollower 0 = .ok (.iload_n 1, 1) := by decide +kernel
theorem dX2_hasFollower_1 : decode cX2_hasFollower 1 = .ok (.ifCond .lt 18, 3) := by decide +kernel
theorem dX2_hasFollower_4 : decode cX2_hasFollower 4 = .ok (.iload_n 1, 1) := by decide +kernel
theorem dX2_hasFollower_5 : decode cX2_hasFollower 5 = .ok (.aload_n 0, 1) := by decide +kernel
theorem dX2_hasFollower_6 : decode cX2_hasFollower 6 = .ok (.getfield 21, 3) := by decide +kernel
theorem dX2_hasFollower_9 : decode cX2_hasFollower 9 = .ok (.getfield 53, 3) := by decide +kernel
theorem dX2_hasFollower_12 : decode cX2_hasFollower 12 = .ok (.if_icmp .ge 7, 3) := by decide +kernel
theorem dX2_hasFollower_19 : decode cX2_hasFollower 19 = .ok (.iconst 0, 1) := by decide +kernel
theorem dX2_hasFollower_20 : decode cX2_hasFollower 20 = .ok (.ireturn, 1) := by decide +kernel
theorem dX2_hasNose_0 : decode cX2_hasNose 0 = .ok (.iload_n 1, 1) := by decide +kernel
theorem dX2_hasNose_1 : decode cX2_hasNose 1 = .ok (.ifCond .lt 18, 3) := by decide +kernel
theorem dX2_hasNose_4 : decode cX2_hasNose 4 = .ok (.iload_n 1, 1) := by decide +kernel
theorem dX2_hasNose_5 : decode cX2_hasNose 5 = .ok (.aload_n 0, 1) := by decide +kernel
theorem dX2_hasNose_6 : decode cX2_hasNose 6 = .ok (.getfield 12, 3) := by decide +kernel
theorem dX2_hasNose_9 : decode cX2_hasNose 9 = .ok (.getfield 50, 3) := by decide +kernel
theorem dX2_hasNose_12 : decode cX2_hasNose 12 = .ok (.if_icmp .ge 7, 3) := by decide +kernel
theorem dX2_hasNose_19 : decode cX2_hasNose 19 = .ok (.iconst 0, 1) := by decide +kernel
theorem dX2_hasNose_20 : decode cX2_hasNose 20 = .ok (.ireturn, 1) := by decide +kernel
theorem dX2_hasPawl_0 : decode cX2_hasPawl 0 = .ok (.iload_n 1, 1) := by decide +kernel
theorem dX2_hasPawl_1 : decode cX2_hasPawl 1 = .ok (.ifCond .lt 18, 3) := by decide +kernel
theorem dX2_hasPawl_4 : decode cX2_hasPawl 4 = .ok (.iload_n 1, 1) := by decide +kernel
theorem dX2_hasPawl_5 : decode cX2_hasPawl 5 = .ok (.aload_n 0, 1) := by decide +kernel
theorem dX2_hasPawl_6 : decode cX2_hasPawl 6 = .ok (.getfield 28, 3) := by decide +kernel
theorem dX2_hasPawl_9 : decode cX2_hasPawl 9 = .ok (.getfield 54, 3) := by decide +kernel
theorem dX2_hasPawl_12 : decode cX2_hasPawl 12 = .ok (.if_icmp .ge 7, 3) := by decide +kernel
theorem dX2_hasPawl_19 : decode cX2_hasPawl 19 = .ok (.iconst 0, 1) := by decide +kernel
theorem dX2_hasPawl_20 : decode cX2_hasPawl 20 = .ok (.ireturn, 1) := by decide +kernel
theorem dX2_hasStep_0 : decode cX2_hasStep 0 = .ok (.iload_n 1, 1) := by decide +kernel
theorem dX2_hasStep_1 : decode cX2_hasStep 1 = .ok (.ifCond .lt 15, 3) := by decide +kernel
theorem dX2_hasStep_4 : decode cX2_hasStep 4 = .ok (.iload_n 1, 1) := by decide +kernel
theorem dX2_hasStep_5 : decode cX2_hasStep 5 = .ok (.aload_n 0, 1) := by decide +kernel
theorem dX2_hasStep_6 : decode cX2_hasStep 6 = .ok (.getfield 43, 3) := by decide +kernel
theorem dX2_hasStep_9 : decode cX2_hasStep 9 = .ok (.if_icmp .ge 7, 3) := by decide +kernel
theorem dX2_hasStep_16 : decode cX2_hasStep 16 = .ok (.iconst 0, 1) := by decide +kernel
theorem dX2_hasStep_17 : decode cX2_hasStep 17 = .ok (.ireturn, 1) := by decide +kernel
theorem dX2_hasTrack_0 : decode cX2_hasTrack 0 = .ok (.iload_n 1, 1) := by decide +kernel
theorem dX2_hasTrack_1 : decode cX2_hasTrack 1 = .ok (.ifCond .lt 15, 3) := by decide +kernel
theorem dX2_hasTrack_4 : decode cX2_hasTrack 4 = .ok (.iload_n 1, 1) := by decide +kernel
theorem dX2_hasTrack_5 : decode cX2_hasTrack 5 = .ok (.aload_n 0, 1) := by decide +kernel
theorem dX2_hasTrack_6 : decode cX2_hasTrack 6 = .ok (.getfield 47, 3) := by decide +kernel
theorem dX2_hasTrack_9 : decode cX2_hasTrack 9 = .ok (.if_icmp .ge 7, 3) := by decide +kernel
theorem dX2_hasTrack_16 : decode cX2_hasTrack 16 = .ok (.iconst 0, 1) := by decide +kernel
theorem dX2_hasTrack_17 : decode cX2_hasTrack 17 = .ok (.ireturn, 1) := by decide +kernel
theorem dX2_isTold_0 : decode cX2_isTold 0 = .ok (.aload_n 0, 1) := by decide +kernel
theorem dX2_isTold_1 : decode cX2_isTold 1 = .ok (.getfield 43, 3) := by decide +kernel
theorem dX2_isTold_4 : decode cX2_isTold 4 = .ok (.ifCond .le 7, 3) := by decide +kernel
theorem dX2_isTold_11 : decode cX2_isTold 11 = .ok (.iconst 0, 1) := by decide +kernel
theorem dX2_isTold_12 : decode cX2_isTold 12 = .ok (.ireturn, 1) := by decide +kernel
theorem dX2_secondStep_0 : decode cX2_secondStep 0 = .ok (.aload_n 0, 1) := by decide +kernel
theorem dX2_secondStep_1 : decode cX2_secondStep 1 = .ok (.getfield 61, 3) := by decide +kernel
theorem dX2_secondStep_4 : decode cX2_secondStep 4 = .ok (.iconst 1, 1) := by decide +kernel
theorem dX2_secondStep_5 : decode cX2_secondStep 5 = .ok (.if_icmp .ge 7, 3) := by decide +kernel
theorem dX2_secondStep_8 : decode cX2_secondStep 8 = .ok (.iconst 0, 1) := by decide +kernel
theorem dX2_secondStep_9 : decode cX2_secondStep 9 = .ok (.goto 18, 3) := by decide +kernel
theorem dX2_secondStep_27 : decode cX2_secondStep 27 = .ok (.ireturn, 1) := by decide +kernel
theorem dX3_brokenBits_0 : decode cX3_brokenBits 0 = .ok (.iconst 0, 1) := by decide +kernel
theorem dX3_brokenBits_1 : decode cX3_brokenBits 1 = .ok (.istore_n 1, 1) := by decide +kernel
theorem dX3_brokenBits_2 : decode cX3_brokenBits 2 = .ok (.iconst 0, 1) := by decide +kernel
theorem dX3_brokenBits_3 : decode cX3_brokenBits 3 = .ok (.istore_n 2, 1) := by decide +kernel
theorem dX3_brokenBits_4 : decode cX3_brokenBits 4 = .ok (.iload_n 2, 1) := by decide +kernel
theorem dX3_brokenBits_5 : decode cX3_brokenBits 5 = .ok (.aload_n 0, 1) := by decide +kernel
theorem dX3_brokenBits_6 : decode cX3_brokenBits 6 = .ok (.getfield 34, 3) := by decide +kernel
theorem dX3_brokenBits_9 : decode cX3_brokenBits 9 = .ok (.if_icmp .ge 24, 3) := by decide +kernel
theorem dX3_brokenBits_33 : decode cX3_brokenBits 33 = .ok (.iload_n 1, 1) := by decide +kernel
theorem dX3_brokenBits_34 : decode cX3_brokenBits 34 = .ok (.ireturn, 1) := by decide +kernel
set_option maxHeartbeats 4000000 in
set_option maxRecDepth 100000 in
theorem c_X2_isTold (l : Launch) (dC : Nat → ClassId) (dI : Nat → Nat → Nat) (cI cZ cB cJ cM : ClassId) (h0 gn gf gp gs gr : Nat)  (sz : Nat) : Met l yX2_isTold (kw yX2_isTold cX2_isTold 1 (some .boolean)) ({ frames := 0, cells := 0, slots := 0, locals := 0 }) (va_Pc [.ref h0] (kPre dC dI [(cI, .int), (cZ, .boolean), (cB, .byte), (cJ, .long), (cM, .object RX2)] [(h0, .inr (2, [.int 0, .int 0, .int 0, .int 0, .int 0, .int 0, .int 0, .int 0, .int 0, .ref gn, .ref gf, .ref gp, .ref gs, .ref gr]))] sz)) (va_Qi (fun (r : Int32) (_ : Unit) => r = 0) (fun _ t => va_P (dC, dI) vwCl [(h0, .inr (2, [.int 0, .int 0, .int 0, .int 0, .int 0, .int 0, .int 0, .int 0, .int 0, .ref gn, .ref gf, .ref gp, .ref gs, .ref gr]))] t.heap ∧ va_D (va_A [(h0, .inr (2, [.int 0, .int 0, .int 0, .int 0, .int 0, .int 0, .int 0, .int 0, .int 0, .ref gn, .ref gf, .ref gp, .ref gs, .ref gr]))] sz) [(h0, .inr (2, [.int 0, .int 0, .int 0, .int 0, .int 0, .int 0, .int 0, .int 0, .int 0, .ref gn, .ref gf, .ref gp, .ref gs, .ref gr]))]) (va_A [(h0, .inr (2, [.int 0, .int 0, .int 0, .int 0, .int 0, .int 0, .int 0, .int 0, .int 0, .ref gn, .ref gf, .ref gp, .ref gs, .ref gr]))] sz)) 0 0 (va_A [(h0, .inr (2, [.int 0, .int 0, .int 0, .int 0, .int 0, .int 0, .int 0, .int 0, .int 0, .ref gn, .ref gf, .ref gp, .ref gs, .ref gr]))] sz) := by
  refine kEnter (by decide) (Nat.le_of_ble_eq_true rfl) ?_
  intro p e s m below meth c ls hx hb hr hml hown hlocks hin hwd hsz hP hK hD hl
  subst hsz
  generalize hAe : va_A [(h0, .inr (2, [.int 0, .int 0, .int 0, .int 0, .int 0, .int 0, .int 0, .int 0, .int 0, .ref gn, .ref gf, .ref gp, .ref gs, .ref gr]))] s.heap.size = A at hD ⊢
  have hA : ∀ q : Nat, s.heap.size ≤ q → A q := fun q h => by rw [← hAe]; exact Or.inr h
  have hS : va_S A s.heap s.heap [] := va_S.rf
  have hl : lv_has ls 1 [(0, .ref h0)] := hl
  refine lv_aload_n hx hb dX2_isTold_0 rfl (lv_at hl 0 rfl) ?_
  refine va_get (D := (dC, dI)) (ci := 2) (v := .int 0) (C := RX2) (T := TX2) (N := 14) hx hb hwd inlX2 hown hK hP 0 rfl rfl 0 (by decide) (hwd _ kr9_23) (fun _ h9 => h9) rfl dX2_isTold_1 ?_
  refine lv_if_le (tgt := 11) hx hb dX2_isTold_4 (by decide) (fun c1 => ?_) (fun c1 => absurd c1 (by decide))
  refine lv_iconst (v := 0) hx hb dX2_isTold_11 (by decide) ?_
  have hP9 := hP.sub (ws' := [(h0, .inr (2, [.int 0, .int 0, .int 0, .int 0, .int 0, .int 0, .int 0, .int 0, .int 0, .ref gn, .ref gf, .ref gp, .ref gs, .ref gr]))]) [0] rfl
  have hD9 := hD.sub (ws' := [(h0, .inr (2, [.int 0, .int 0, .int 0, .int 0, .int 0, .int 0, .int 0, .int 0, .int 0, .ref gn, .ref gf, .ref gp, .ref gs, .ref gr]))]) [0] (by decide) rfl
  exact W.zret (v := 0) hx hb hr (by decide) (fun t ht hW => ⟨⟨0, (), rfl, rfl, (by rw [ht]; exact hP9), hD9⟩, hS.F ht⟩) hS.2.2 dX2_isTold_12
set_option maxHeartbeats 4000000 in
set_option maxRecDepth 100000 in
theorem c_X2_hasTrack (l : Launch) (dC : Nat → ClassId) (dI : Nat → Nat → Nat) (cI cZ cB cJ cM : ClassId) (h0 gn gf gp gs gr : Nat) (p0 : Int32) (sz : Nat) : Met l yX2_hasTrack (kw yX2_hasTrack cX2_hasTrack 2 (some .boolean)) ({ frames := 0, cells := 0, slots := 0, locals := 0 }) (va_Pc [.ref h0, .int p0] (kPre dC dI [(cI, .int), (cZ, .boolean), (cB, .byte), (cJ, .long), (cM, .object RX2)] [(h0, .inr (2, [.int 0, .int 0, .int 0, .int 0, .int 0, .int 0, .int 0, .int 0, .int 0, .ref gn, .ref gf, .ref gp, .ref gs, .ref gr]))] sz)) (va_Qi (fun (r : Int32) (_ : Unit) => r = 0) (fun _ t => va_P (dC, dI) vwCl [(h0, .inr (2, [.int 0, .int 0, .int 0, .int 0, .int 0, .int 0, .int 0, .int 0, .int 0, .ref gn, .ref gf, .ref gp, .ref gs, .ref gr]))] t.heap ∧ va_D (va_A [(h0, .inr (2, [.int 0, .int 0, .int 0, .int 0, .int 0, .int 0, .int 0, .int 0, .int 0, .ref gn, .ref gf, .ref gp, .ref gs, .ref gr]))] sz) [(h0, .inr (2, [.int 0, .int 0, .int 0, .int 0, .int 0, .int 0, .int 0, .int 0, .int 0, .ref gn, .ref gf, .ref gp, .ref gs, .ref gr]))]) (va_A [(h0, .inr (2, [.int 0, .int 0, .int 0, .int 0, .int 0, .int 0, .int 0, .int 0, .int 0, .ref gn, .ref gf, .ref gp, .ref gs, .ref gr]))] sz)) 0 0 (va_A [(h0, .inr (2, [.int 0, .int 0, .int 0, .int 0, .int 0, .int 0, .int 0, .int 0, .int 0, .ref gn, .ref gf, .ref gp, .ref gs, .ref gr]))] sz) := by
  refine kEnter (by decide) (Nat.le_of_ble_eq_true rfl) ?_
  intro p e s m below meth c ls hx hb hr hml hown hlocks hin hwd hsz hP hK hD hl
  subst hsz
  generalize hAe : va_A [(h0, .inr (2, [.int 0, .int 0, .int 0, .int 0, .int 0, .int 0, .int 0, .int 0, .int 0, .ref gn, .ref gf, .ref gp, .ref gs, .ref gr]))] s.heap.size = A at hD ⊢
  have hA : ∀ q : Nat, s.heap.size ≤ q → A q := fun q h => by rw [← hAe]; exact Or.inr h
  have hS : va_S A s.heap s.heap [] := va_S.rf
  have hl : lv_has ls 2 [(0, .ref h0), (1, .int p0)] := hl
  refine lv_iload_n hx hb dX2_hasTrack_0 rfl (lv_at hl 1 rfl) ?_
  refine lv_if_lt (tgt := 16) hx hb dX2_hasTrack_1 (by decide) (fun c1 => ?_) (fun c1 => ?_)
  · refine lv_iconst (v := 0) hx hb dX2_hasTrack_16 (by decide) ?_
    have hP9 := hP.sub (ws' := [(h0, .inr (2, [.int 0, .int 0, .int 0, .int 0, .int 0, .int 0, .int 0, .int 0, .int 0, .ref gn, .ref gf, .ref gp, .ref gs, .ref gr]))]) [0] rfl
    have hD9 := hD.sub (ws' := [(h0, .inr (2, [.int 0, .int 0, .int 0, .int 0, .int 0, .int 0, .int 0, .int 0, .int 0, .ref gn, .ref gf, .ref gp, .ref gs, .ref gr]))]) [0] (by decide) rfl
    exact W.zret (v := 0) hx hb hr (by decide) (fun t ht hW => ⟨⟨0, (), rfl, rfl, (by rw [ht]; exact hP9), hD9⟩, hS.F ht⟩) hS.2.2 dX2_hasTrack_17
  · refine lv_iload_n hx hb dX2_hasTrack_4 rfl (lv_at hl 1 rfl) ?_
    refine lv_aload_n hx hb dX2_hasTrack_5 rfl (lv_at hl 0 rfl) ?_
    refine va_get (D := (dC, dI)) (ci := 2) (v := .int 0) (C := RX2) (T := TX2) (N := 14) hx hb hwd inlX2 hown hK hP 0 rfl rfl 3 (by decide) (hwd _ kr10_2) (fun _ h9 => h9) rfl dX2_hasTrack_6 ?_
    refine lv_icmp_ge (tgt := 16) hx hb dX2_hasTrack_9 (by decide) (fun c2 => ?_) (fun c2 => ?_)
    · refine lv_iconst (v := 0) hx hb dX2_hasTrack_16 (by decide) ?_
      have hP9 := hP.sub (ws' := [(h0, .inr (2, [.int 0, .int 0, .int 0, .int 0, .int 0, .int 0, .int 0, .int 0, .int 0, .ref gn, .ref gf, .ref gp, .ref gs, .ref gr]))]) [0] rfl
      have hD9 := hD.sub (ws' := [(h0, .inr (2, [.int 0, .int 0, .int 0, .int 0, .int 0, .int 0, .int 0, .int 0, .int 0, .ref gn, .ref gf, .ref gp, .ref gs, .ref gr]))]) [0] (by decide) rfl
      exact W.zret (v := 0) hx hb hr (by decide) (fun t ht hW => ⟨⟨0, (), rfl, rfl, (by rw [ht]; exact hP9), hD9⟩, hS.F ht⟩) hS.2.2 dX2_hasTrack_17
    · exfalso
      simp only [and_true, true_and, or_true, true_or, and_false, false_and, or_false, false_or, not_true_eq_false, not_false_eq_true, ne_eq, ki_lt, ki_le, ki_eq, kz_m8, kz_m7, kz_m6, kz_m4, kz_m3, kz_m2, kz_m1, kz_0, kz_1, kz_2, kz_3, kz_4, kz_5, kz_6, kz_7, kz_8, kz_9, kz_10, kz_11, kz_20, kz_60] at c1 c2
      omega
set_option maxHeartbeats 4000000 in
set_option maxRecDepth 100000 in
theorem c_X2_hasStep (l : Launch) (dC : Nat → ClassId) (dI : Nat → Nat → Nat) (cI cZ cB cJ cM : ClassId) (h0 gn gf gp gs gr : Nat) (p0 : Int32) (sz : Nat) : Met l yX2_hasStep (kw yX2_hasStep cX2_hasStep 2 (some .boolean)) ({ frames := 0, cells := 0, slots := 0, locals := 0 }) (va_Pc [.ref h0, .int p0] (kPre dC dI [(cI, .int), (cZ, .boolean), (cB, .byte), (cJ, .long), (cM, .object RX2)] [(h0, .inr (2, [.int 0, .int 0, .int 0, .int 0, .int 0, .int 0, .int 0, .int 0, .int 0, .ref gn, .ref gf, .ref gp, .ref gs, .ref gr]))] sz)) (va_Qi (fun (r : Int32) (_ : Unit) => r = 0) (fun _ t => va_P (dC, dI) vwCl [(h0, .inr (2, [.int 0, .int 0, .int 0, .int 0, .int 0, .int 0, .int 0, .int 0, .int 0, .ref gn, .ref gf, .ref gp, .ref gs, .ref gr]))] t.heap ∧ va_D (va_A [(h0, .inr (2, [.int 0, .int 0, .int 0, .int 0, .int 0, .int 0, .int 0, .int 0, .int 0, .ref gn, .ref gf, .ref gp, .ref gs, .ref gr]))] sz) [(h0, .inr (2, [.int 0, .int 0, .int 0, .int 0, .int 0, .int 0, .int 0, .int 0, .int 0, .ref gn, .ref gf, .ref gp, .ref gs, .ref gr]))]) (va_A [(h0, .inr (2, [.int 0, .int 0, .int 0, .int 0, .int 0, .int 0, .int 0, .int 0, .int 0, .ref gn, .ref gf, .ref gp, .ref gs, .ref gr]))] sz)) 0 0 (va_A [(h0, .inr (2, [.int 0, .int 0, .int 0, .int 0, .int 0, .int 0, .int 0, .int 0, .int 0, .ref gn, .ref gf, .ref gp, .ref gs, .ref gr]))] sz) := by
  refine kEnter (by decide) (Nat.le_of_ble_eq_true rfl) ?_
  intro p e s m below meth c ls hx hb hr hml hown hlocks hin hwd hsz hP hK hD hl
  subst hsz
  generalize hAe : va_A [(h0, .inr (2, [.int 0, .int 0, .int 0, .int 0, .int 0, .int 0, .int 0, .int 0, .int 0, .ref gn, .ref gf, .ref gp, .ref gs, .ref gr]))] s.heap.size = A at hD ⊢
  have hA : ∀ q : Nat, s.heap.size ≤ q → A q := fun q h => by rw [← hAe]; exact Or.inr h
  have hS : va_S A s.heap s.heap [] := va_S.rf
  have hl : lv_has ls 2 [(0, .ref h0), (1, .int p0)] := hl
  refine lv_iload_n hx hb dX2_hasStep_0 rfl (lv_at hl 1 rfl) ?_
  refine lv_if_lt (tgt := 16) hx hb dX2_hasStep_1 (by decide) (fun c1 => ?_) (fun c1 => ?_)
  · refine lv_iconst (v := 0) hx hb dX2_hasStep_16 (by decide) ?_
    have hP9 := hP.sub (ws' := [(h0, .inr (2, [.int 0, .int 0, .int 0, .int 0, .int 0, .int 0, .int 0, .int 0, .int 0, .ref gn, .ref gf, .ref gp, .ref gs, .ref gr]))]) [0] rfl
    have hD9 := hD.sub (ws' := [(h0, .inr (2, [.int 0, .int 0, .int 0, .int 0, .int 0, .int 0, .int 0, .int 0, .int 0, .ref gn, .ref gf, .ref gp, .ref gs, .ref gr]))]) [0] (by decide) rfl
    exact W.zret (v := 0) hx hb hr (by decide) (fun t ht hW => ⟨⟨0, (), rfl, rfl, (by rw [ht]; exact hP9), hD9⟩, hS.F ht⟩) hS.2.2 dX2_hasStep_17
  · refine lv_iload_n hx hb dX2_hasStep_4 rfl (lv_at hl 1 rfl) ?_
    refine lv_aload_n hx hb dX2_hasStep_5 rfl (lv_at hl 0 rfl) ?_
    refine va_get (D := (dC, dI)) (ci := 2) (v := .int 0) (C := RX2) (T := TX2) (N := 14) hx hb hwd inlX2 hown hK hP 0 rfl rfl 0 (by decide) (hwd _ kr9_23) (fun _ h9 => h9) rfl dX2_hasStep_6 ?_
    refine lv_icmp_ge (tgt := 16) hx hb dX2_hasStep_9 (by decide) (fun c2 => ?_) (fun c2 => ?_)
    · refine lv_iconst (v := 0) hx hb dX2_hasStep_16 (by decide) ?_
      have hP9 := hP.sub (ws' := [(h0, .inr (2, [.int 0, .int 0, .int 0, .int 0, .int 0, .int 0, .int 0, .int 0, .int 0, .ref gn, .ref gf, .ref gp, .ref gs, .ref gr]))]) [0] rfl
      have hD9 := hD.sub (ws' := [(h0, .inr (2, [.int 0, .int 0, .int 0, .int 0, .int 0, .int 0, .int 0, .int 0, .int 0, .ref gn, .ref gf, .ref gp, .ref gs, .ref gr]))]) [0] (by decide) rfl
      exact W.zret (v := 0) hx hb hr (by decide) (fun t ht hW => ⟨⟨0, (), rfl, rfl, (by rw [ht]; exact hP9), hD9⟩, hS.F ht⟩) hS.2.2 dX2_hasStep_17
    · exfalso
      simp only [and_true, true_and, or_true, true_or, and_false, false_and, or_false, false_or, not_true_eq_false, not_false_eq_true, ne_eq, ki_lt, ki_le, ki_eq, kz_m8, kz_m7, kz_m6, kz_m4, kz_m3, kz_m2, kz_m1, kz_0, kz_1, kz_2, kz_3, kz_4, kz_5, kz_6, kz_7, kz_8, kz_9, kz_10, kz_11, kz_20, kz_60] at c1 c2
      omega
set_option maxHeartbeats 4000000 in
set_option maxRecDepth 100000 in
theorem c_X2_hasNose (l : Launch) (dC : Nat → ClassId) (dI : Nat → Nat → Nat) (cI cZ cB cJ cM : ClassId) (h0 gn gf gp gs gr a0 a1 a2 a3 a4 a5 a6 : Nat) (p0 : Int32) (sz : Nat) : Met l yX2_hasNose (kw yX2_hasNose cX2_hasNose 2 (some .boolean)) ({ frames := 0, cells := 0, slots := 0, locals := 0 }) (va_Pc [.ref h0, .int p0] (kPre dC dI [(cI, .int), (cZ, .boolean), (cB, .byte), (cJ, .long), (cM, .object RX2)] [(h0, .inr (2, [.int 0, .int 0, .int 0, .int 0, .int 0, .int 0, .int 0, .int 0, .int 0, .ref gn, .ref gf, .ref gp, .ref gs, .ref gr])), (gn, .inr (3, [.int 0, .ref a0, .ref a1, .ref a2, .ref a3, .ref a4, .ref a5, .ref a6]))] sz)) (va_Qi (fun (r : Int32) (_ : Unit) => r = 0) (fun _ t => va_P (dC, dI) vwCl [(h0, .inr (2, [.int 0, .int 0, .int 0, .int 0, .int 0, .int 0, .int 0, .int 0, .int 0, .ref gn, .ref gf, .ref gp, .ref gs, .ref gr])), (gn, .inr (3, [.int 0, .ref a0, .ref a1, .ref a2, .ref a3, .ref a4, .ref a5, .ref a6]))] t.heap ∧ va_D (va_A [(h0, .inr (2, [.int 0, .int 0, .int 0, .int 0, .int 0, .int 0, .int 0, .int 0, .int 0, .ref gn, .ref gf, .ref gp, .ref gs, .ref gr])), (gn, .inr (3, [.int 0, .ref a0, .ref a1, .ref a2, .ref a3, .ref a4, .ref a5, .ref a6]))] sz) [(h0, .inr (2, [.int 0, .int 0, .int 0, .int 0, .int 0, .int 0, .int 0, .int 0, .int 0, .ref gn, .ref gf, .ref gp, .ref gs, .ref gr])), (gn, .inr (3, [.int 0, .ref a0, .ref a1, .ref a2, .ref a3, .ref a4, .ref a5, .ref a6]))]) (va_A [(h0, .inr (2, [.int 0, .int 0, .int 0, .int 0, .int 0, .int 0, .int 0, .int 0, .int 0, .ref gn, .ref gf, .ref gp, .ref gs, .ref gr])), (gn, .inr (3, [.int 0, .ref a0, .ref a1, .ref a2, .ref a3, .ref a4, .ref a5, .ref a6]))] sz)) 0 0 (va_A [(h0, .inr (2, [.int 0, .int 0, .int 0, .int 0, .int 0, .int 0, .int 0, .int 0, .int 0, .ref gn, .ref gf, .ref gp, .ref gs, .ref gr])), (gn, .inr (3, [.int 0, .ref a0, .ref a1, .ref a2, .ref a3, .ref a4, .ref a5, .ref a6]))] sz) := by
  refine kEnter (by decide) (Nat.le_of_ble_eq_true rfl) ?_
  intro p e s m below meth c ls hx hb hr hml hown hlocks hin hwd hsz hP hK hD hl
  subst hsz
  generalize hAe : va_A [(h0, .inr (2, [.int 0, .int 0, .int 0, .int 0, .int 0, .int 0, .int 0, .int 0, .int 0, .ref gn, .ref gf, .ref gp, .ref gs, .ref gr])), (gn, .inr (3, [.int 0, .ref a0, .ref a1, .ref a2, .ref a3, .ref a4, .ref a5, .ref a6]))] s.heap.size = A at hD ⊢
  have hA : ∀ q : Nat, s.heap.size ≤ q → A q := fun q h => by rw [← hAe]; exact Or.inr h
  have hS : va_S A s.heap s.heap [] := va_S.rf
  have hl : lv_has ls 2 [(0, .ref h0), (1, .int p0)] := hl
  refine lv_iload_n hx hb dX2_hasNose_0 rfl (lv_at hl 1 rfl) ?_
  refine lv_if_lt (tgt := 19) hx hb dX2_hasNose_1 (by decide) (fun c1 => ?_) (fun c1 => ?_)
  · refine lv_iconst (v := 0) hx hb dX2_hasNose_19 (by decide) ?_
    have hP9 := hP.sub (ws' := [(h0, .inr (2, [.int 0, .int 0, .int 0, .int 0, .int 0, .int 0, .int 0, .int 0, .int 0, .ref gn, .ref gf, .ref gp, .ref gs, .ref gr])), (gn, .inr (3, [.int 0, .ref a0, .ref a1, .ref a2, .ref a3, .ref a4, .ref a5, .ref a6]))]) [0, 1] rfl
    have hD9 := hD.sub (ws' := [(h0, .inr (2, [.int 0, .int 0, .int 0, .int 0, .int 0, .int 0, .int 0, .int 0, .int 0, .ref gn, .ref gf, .ref gp, .ref gs, .ref gr])), (gn, .inr (3, [.int 0, .ref a0, .ref a1, .ref a2, .ref a3, .ref a4, .ref a5, .ref a6]))]) [0, 1] (by decide) rfl
    exact W.zret (v := 0) hx hb hr (by decide) (fun t ht hW => ⟨⟨0, (), rfl, rfl, (by rw [ht]; exact hP9), hD9⟩, hS.F ht⟩) hS.2.2 dX2_hasNose_20
  · refine lv_iload_n hx hb dX2_hasNose_4 rfl (lv_at hl 1 rfl) ?_
    refine lv_aload_n hx hb dX2_hasNose_5 rfl (lv_at hl 0 rfl) ?_
    refine va_get (D := (dC, dI)) (ci := 2) (v := .ref gn) (C := RX2) (T := TX2) (N := 14) hx hb hwd inlX2 hown hK hP 0 rfl rfl 9 (by decide) (hwd _ kr5_0) (fun _ h9 => h9) rfl dX2_hasNose_6 ?_
    refine va_get (D := (dC, dI)) (ci := 3) (v := .int 0) (C := RX3) (T := TX3) (N := 8) hx hb hwd inlX3 hown hK hP 1 rfl rfl 0 (by decide) (hwd _ kr10_8) (fun _ h9 => h9) rfl dX2_hasNose_9 ?_
    refine lv_icmp_ge (tgt := 19) hx hb dX2_hasNose_12 (by decide) (fun c2 => ?_) (fun c2 => ?_)
    · refine lv_iconst (v := 0) hx hb dX2_hasNose_19 (by decide) ?_
      have hP9 := hP.sub (ws' := [(h0, .inr (2, [.int 0, .int 0, .int 0, .int 0, .int 0, .int 0, .int 0, .int 0, .int 0, .ref gn, .ref gf, .ref gp, .ref gs, .ref gr])), (gn, .inr (3, [.int 0, .ref a0, .ref a1, .ref a2, .ref a3, .ref a4, .ref a5, .ref a6]))]) [0, 1] rfl
      have hD9 := hD.sub (ws' := [(h0, .inr (2, [.int 0, .int 0, .int 0, .int 0, .int 0, .int 0, .int 0, .int 0, .int 0, .ref gn, .ref gf, .ref gp, .ref gs, .ref gr])), (gn, .inr (3, [.int 0, .ref a0, .ref a1, .ref a2, .ref a3, .ref a4, .ref a5, .ref a6]))]) [0, 1] (by decide) rfl
      exact W.zret (v := 0) hx hb hr (by decide) (fun t ht hW => ⟨⟨0, (), rfl, rfl, (by rw [ht]; exact hP9), hD9⟩, hS.F ht⟩) hS.2.2 dX2_hasNose_20
    · exfalso
      simp only [and_true, true_and, or_true, true_or, and_false, false_and, or_false, false_or, not_true_eq_false, not_false_eq_true, ne_eq, ki_lt, ki_le, ki_eq, kz_m8, kz_m7, kz_m6, kz_m4, kz_m3, kz_m2, kz_m1, kz_0, kz_1, kz_2, kz_3, kz_4, kz_5, kz_6, kz_7, kz_8, kz_9, kz_10, kz_11, kz_20, kz_60] at c1 c2
      omega
set_option maxHeartbeats 4000000 in
set_option maxRecDepth 100000 in
theorem c_X2_hasFollower (l : Launch) (dC : Nat → ClassId) (dI : Nat → Nat → Nat) (cI cZ cB cJ cM : ClassId) (h0 gn gf gp gs gr a0 a1 a2 a3 a4 a5 a6 a7 a8 : Nat) (p0 : Int32) (sz : Nat) : Met l yX2_hasFollower (kw yX2_hasFollower cX2_hasFollower 2 (some .boolean)) ({ frames := 0, cells := 0, slots := 0, locals := 0 }) (va_Pc [.ref h0, .int p0] (kPre dC dI [(cI, .int), (cZ, .boolean), (cB, .byte), (cJ, .long), (cM, .object RX2)] [(h0, .inr (2, [.int 0, .int 0, .int 0, .int 0, .int 0, .int 0, .int 0, .int 0, .int 0, .ref gn, .ref gf, .ref gp, .ref gs, .ref gr])), (gf, .inr (1, [.int 0, .ref a0, .ref a1, .ref a2, .ref a3, .ref a4, .ref a5, .ref a6, .ref a7, .ref a8]))] sz)) (va_Qi (fun (r : Int32) (_ : Unit) => r = 0) (fun _ t => va_P (dC, dI) vwCl [(h0, .inr (2, [.int 0, .int 0, .int 0, .int 0, .int 0, .int 0, .int 0, .int 0, .int 0, .ref gn, .ref gf, .ref gp, .ref gs, .ref gr])), (gf, .inr (1, [.int 0, .ref a0, .ref a1, .ref a2, .ref a3, .ref a4, .ref a5, .ref a6, .ref a7, .ref a8]))] t.heap ∧ va_D (va_A [(h0, .inr (2, [.int 0, .int 0, .int 0, .int 0, .int 0, .int 0, .int 0, .int 0, .int 0, .ref gn, .ref gf, .ref gp, .ref gs, .ref gr])), (gf, .inr (1, [.int 0, .ref a0, .ref a1, .ref a2, .ref a3, .ref a4, .ref a5, .ref a6, .ref a7, .ref a8]))] sz) [(h0, .inr (2, [.int 0, .int 0, .int 0, .int 0, .int 0, .int 0, .int 0, .int 0, .int 0, .ref gn, .ref gf, .ref gp, .ref gs, .ref gr])), (gf, .inr (1, [.int 0, .ref a0, .ref a1, .ref a2, .ref a3, .ref a4, .ref a5, .ref a6, .ref a7, .ref a8]))]) (va_A [(h0, .inr (2, [.int 0, .int 0, .int 0, .int 0, .int 0, .int 0, .int 0, .int 0, .int 0, .ref gn, .ref gf, .ref gp, .ref gs, .ref gr])), (gf, .inr (1, [.int 0, .ref a0, .ref a1, .ref a2, .ref a3, .ref a4, .ref a5, .ref a6, .ref a7, .ref a8]))] sz)) 0 0 (va_A [(h0, .inr (2, [.int 0, .int 0, .int 0, .int 0, .int 0, .int 0, .int 0, .int 0, .int 0, .ref gn, .ref gf, .ref gp, .ref gs, .ref gr])), (gf, .inr (1, [.int 0, .ref a0, .ref a1, .ref a2, .ref a3, .ref a4, .ref a5, .ref a6, .ref a7, .ref a8]))] sz) := by
  refine kEnter (by decide) (Nat.le_of_ble_eq_true rfl) ?_
  intro p e s m below meth c ls hx hb hr hml hown hlocks hin hwd hsz hP hK hD hl
  subst hsz
  generalize hAe : va_A [(h0, .inr (2, [.int 0, .int 0, .int 0, .int 0, .int 0, .int 0, .int 0, .int 0, .int 0, .ref gn, .ref gf, .ref gp, .ref gs, .ref gr])), (gf, .inr (1, [.int 0, .ref a0, .ref a1, .ref a2, .ref a3, .ref a4, .ref a5, .ref a6, .ref a7, .ref a8]))] s.heap.size = A at hD ⊢
  have hA : ∀ q : Nat, s.heap.size ≤ q → A q := fun q h => by rw [← hAe]; exact Or.inr h
  have hS : va_S A s.heap s.heap [] := va_S.rf
  have hl : lv_has ls 2 [(0, .ref h0), (1, .int p0)] := hl
  refine lv_iload_n hx hb dX2_hasFollower_0 rfl (lv_at hl 1 rfl) ?_
  refine lv_if_lt (tgt := 19) hx hb dX2_hasFollower_1 (by decide) (fun c1 => ?_) (fun c1 => ?_)
  · refine lv_iconst (v := 0) hx hb dX2_hasFollower_19 (by decide) ?_
    have hP9 := hP.sub (ws' := [(h0, .inr (2, [.int 0, .int 0, .int 0, .int 0, .int 0, .int 0, .int 0, .int 0, .int 0, .ref gn, .ref gf, .ref gp, .ref gs, .ref gr])), (gf, .inr (1, [.int 0, .ref a0, .ref a1, .ref a2, .ref a3, .ref a4, .ref a5, .ref a6, .ref a7, .ref a8]))]) [0, 1] rfl
    have hD9 := hD.sub (ws' := [(h0, .inr (2, [.int 0, .int 0, .int 0, .int 0, .int 0, .int 0, .int 0, .int 0, .int 0, .ref gn, .ref gf, .ref gp, .ref gs, .ref gr])), (gf, .inr (1, [.int 0, .ref a0, .ref a1, .ref a2, .ref a3, .ref a4, .ref a5, .ref a6, .ref a7, .ref a8]))]) [0, 1] (by decide) rfl
    exact W.zret (v := 0) hx hb hr (by decide) (fun t ht hW => ⟨⟨0, (), rfl, rfl, (by rw [ht]; exact hP9), hD9⟩, hS.F ht⟩) hS.2.2 dX2_hasFollower_20
  · refine lv_iload_n hx hb dX2_hasFollower_4 rfl (lv_at hl 1 rfl) ?_
    refine lv_aload_n hx hb dX2_hasFollower_5 rfl (lv_at hl 0 rfl) ?_
    refine va_get (D := (dC, dI)) (ci := 2) (v := .ref gf) (C := RX2) (T := TX2) (N := 14) hx hb hwd inlX2 hown hK hP 0 rfl rfl 10 (by decide) (hwd _ kr5_4) (fun _ h9 => h9) rfl dX2_hasFollower_6 ?_
    refine va_get (D := (dC, dI)) (ci := 1) (v := .int 0) (C := RX1) (T := TX1) (N := 10) hx hb hwd inlX1 hown hK hP 1 rfl rfl 0 (by decide) (hwd _ kr10_9) (fun _ h9 => h9) rfl dX2_hasFollower_9 ?_
    refine lv_icmp_ge (tgt := 19) hx hb dX2_hasFollower_12 (by decide) (fun c2 => ?_) (fun c2 => ?_)
    · refine lv_iconst (v := 0) hx hb dX2_hasFollower_19 (by decide) ?_
      have hP9 := hP.sub (ws' := [(h0, .inr (2, [.int 0, .int 0, .int 0, .int 0, .int 0, .int 0, .int 0, .int 0, .int 0, .ref gn, .ref gf, .ref gp, .ref gs, .ref gr])), (gf, .inr (1, [.int 0, .ref a0, .ref a1, .ref a2, .ref a3, .ref a4, .ref a5, .ref a6, .ref a7, .ref a8]))]) [0, 1] rfl
      have hD9 := hD.sub (ws' := [(h0, .inr (2, [.int 0, .int 0, .int 0, .int 0, .int 0, .int 0, .int 0, .int 0, .int 0, .ref gn, .ref gf, .ref gp, .ref gs, .ref gr])), (gf, .inr (1, [.int 0, .ref a0, .ref a1, .ref a2, .ref a3, .ref a4, .ref a5, .ref a6, .ref a7, .ref a8]))]) [0, 1] (by decide) rfl
      exact W.zret (v := 0) hx hb hr (by decide) (fun t ht hW => ⟨⟨0, (), rfl, rfl, (by rw [ht]; exact hP9), hD9⟩, hS.F ht⟩) hS.2.2 dX2_hasFollower_20
    · exfalso
      simp only [and_true, true_and, or_true, true_or, and_false, false_and, or_false, false_or, not_true_eq_false, not_false_eq_true, ne_eq, ki_lt, ki_le, ki_eq, kz_m8, kz_m7, kz_m6, kz_m4, kz_m3, kz_m2, kz_m1, kz_0, kz_1, kz_2, kz_3, kz_4, kz_5, kz_6, kz_7, kz_8, kz_9, kz_10, kz_11, kz_20, kz_60] at c1 c2
      omega
set_option maxHeartbeats 4000000 in
set_option maxRecDepth 100000 in
theorem c_X2_hasPawl (l : Launch) (dC : Nat → ClassId) (dI : Nat → Nat → Nat) (cI cZ cB cJ cM : ClassId) (h0 gn gf gp gs gr a0 a1 a2 a3 : Nat) (p0 : Int32) (sz : Nat) : Met l yX2_hasPawl (kw yX2_hasPawl cX2_hasPawl 2 (some .boolean)) ({ frames := 0, cells := 0, slots := 0, locals := 0 }) (va_Pc [.ref h0, .int p0] (kPre dC dI [(cI, .int), (cZ, .boolean), (cB, .byte), (cJ, .long), (cM, .object RX2)] [(h0, .inr (2, [.int 0, .int 0, .int 0, .int 0, .int 0, .int 0, .int 0, .int 0, .int 0, .ref gn, .ref gf, .ref gp, .ref gs, .ref gr])), (gp, .inr (4, [.int 0, .ref a0, .ref a1, .ref a2, .ref a3]))] sz)) (va_Qi (fun (r : Int32) (_ : Unit) => r = 0) (fun _ t => va_P (dC, dI) vwCl [(h0, .inr (2, [.int 0, .int 0, .int 0, .int 0, .int 0, .int 0, .int 0, .int 0, .int 0, .ref gn, .ref gf, .ref gp, .ref gs, .ref gr])), (gp, .inr (4, [.int 0, .ref a0, .ref a1, .ref a2, .ref a3]))] t.heap ∧ va_D (va_A [(h0, .inr (2, [.int 0, .int 0, .int 0, .int 0, .int 0, .int 0, .int 0, .int 0, .int 0, .ref gn, .ref gf, .ref gp, .ref gs, .ref gr])), (gp, .inr (4, [.int 0, .ref a0, .ref a1, .ref a2, .ref a3]))] sz) [(h0, .inr (2, [.int 0, .int 0, .int 0, .int 0, .int 0, .int 0, .int 0, .int 0, .int 0, .ref gn, .ref gf, .ref gp, .ref gs, .ref gr])), (gp, .inr (4, [.int 0, .ref a0, .ref a1, .ref a2, .ref a3]))]) (va_A [(h0, .inr (2, [.int 0, .int 0, .int 0, .int 0, .int 0, .int 0, .int 0, .int 0, .int 0, .ref gn, .ref gf, .ref gp, .ref gs, .ref gr])), (gp, .inr (4, [.int 0, .ref a0, .ref a1, .ref a2, .ref a3]))] sz)) 0 0 (va_A [(h0, .inr (2, [.int 0, .int 0, .int 0, .int 0, .int 0, .int 0, .int 0, .int 0, .int 0, .ref gn, .ref gf, .ref gp, .ref gs, .ref gr])), (gp, .inr (4, [.int 0, .ref a0, .ref a1, .ref a2, .ref a3]))] sz) := by
  refine kEnter (by decide) (Nat.le_of_ble_eq_true rfl) ?_
  intro p e s m below meth c ls hx hb hr hml hown hlocks hin hwd hsz hP hK hD hl
  subst hsz
  generalize hAe : va_A [(h0, .inr (2, [.int 0, .int 0, .int 0, .int 0, .int 0, .int 0, .int 0, .int 0, .int 0, .ref gn, .ref gf, .ref gp, .ref gs, .ref gr])), (gp, .inr (4, [.int 0, .ref a0, .ref a1, .ref a2, .ref a3]))] s.heap.size = A at hD ⊢
  have hA : ∀ q : Nat, s.heap.size ≤ q → A q := fun q h => by rw [← hAe]; exact Or.inr h
  have hS : va_S A s.heap s.heap [] := va_S.rf
  have hl : lv_has ls 2 [(0, .ref h0), (1, .int p0)] := hl
  refine lv_iload_n hx hb dX2_hasPawl_0 rfl (lv_at hl 1 rfl) ?_
  refine lv_if_lt (tgt := 19) hx hb dX2_hasPawl_1 (by decide) (fun c1 => ?_) (fun c1 => ?_)
  · refine lv_iconst (v := 0) hx hb dX2_hasPawl_19 (by decide) ?_
    have hP9 := hP.sub (ws' := [(h0, .inr (2, [.int 0, .int 0, .int 0, .int 0, .int 0, .int 0, .int 0, .int 0, .int 0, .ref gn, .ref gf, .ref gp, .ref gs, .ref gr])), (gp, .inr (4, [.int 0, .ref a0, .ref a1, .ref a2, .ref a3]))]) [0, 1] rfl
    have hD9 := hD.sub (ws' := [(h0, .inr (2, [.int 0, .int 0, .int 0, .int 0, .int 0, .int 0, .int 0, .int 0, .int 0, .ref gn, .ref gf, .ref gp, .ref gs, .ref gr])), (gp, .inr (4, [.int 0, .ref a0, .ref a1, .ref a2, .ref a3]))]) [0, 1] (by decide) rfl
    exact W.zret (v := 0) hx hb hr (by decide) (fun t ht hW => ⟨⟨0, (), rfl, rfl, (by rw [ht]; exact hP9), hD9⟩, hS.F ht⟩) hS.2.2 dX2_hasPawl_20
  · refine lv_iload_n hx hb dX2_hasPawl_4 rfl (lv_at hl 1 rfl) ?_
    refine lv_aload_n hx hb dX2_hasPawl_5 rfl (lv_at hl 0 rfl) ?_
    refine va_get (D := (dC, dI)) (ci := 2) (v := .ref gp) (C := RX2) (T := TX2) (N := 14) hx hb hwd inlX2 hown hK hP 0 rfl rfl 11 (by decide) (hwd _ kr5_8) (fun _ h9 => h9) rfl dX2_hasPawl_6 ?_
    refine va_get (D := (dC, dI)) (ci := 4) (v := .int 0) (C := RX4) (T := TX4) (N := 5) hx hb hwd inlX4 hown hK hP 1 rfl rfl 0 (by decide) (hwd _ kr10_10) (fun _ h9 => h9) rfl dX2_hasPawl_9 ?_
    refine lv_icmp_ge (tgt := 19) hx hb dX2_hasPawl_12 (by decide) (fun c2 => ?_) (fun c2 => ?_)
    · refine lv_iconst (v := 0) hx hb dX2_hasPawl_19 (by decide) ?_
      have hP9 := hP.sub (ws' := [(h0, .inr (2, [.int 0, .int 0, .int 0, .int 0, .int 0, .int 0, .int 0, .int 0, .int 0, .ref gn, .ref gf, .ref gp, .ref gs, .ref gr])), (gp, .inr (4, [.int 0, .ref a0, .ref a1, .ref a2, .ref a3]))]) [0, 1] rfl
      have hD9 := hD.sub (ws' := [(h0, .inr (2, [.int 0, .int 0, .int 0, .int 0, .int 0, .int 0, .int 0, .int 0, .int 0, .ref gn, .ref gf, .ref gp, .ref gs, .ref gr])), (gp, .inr (4, [.int 0, .ref a0, .ref a1, .ref a2, .ref a3]))]) [0, 1] (by decide) rfl
      exact W.zret (v := 0) hx hb hr (by decide) (fun t ht hW => ⟨⟨0, (), rfl, rfl, (by rw [ht]; exact hP9), hD9⟩, hS.F ht⟩) hS.2.2 dX2_hasPawl_20
    · exfalso
      simp only [and_true, true_and, or_true, true_or, and_false, false_and, or_false, false_or, not_true_eq_false, not_false_eq_true, ne_eq, ki_lt, ki_le, ki_eq, kz_m8, kz_m7, kz_m6, kz_m4, kz_m3, kz_m2, kz_m1, kz_0, kz_1, kz_2, kz_3, kz_4, kz_5, kz_6, kz_7, kz_8, kz_9, kz_10, kz_11, kz_20, kz_60] at c1 c2
      omega
set_option maxHeartbeats 4000000 in
set_option maxRecDepth 100000 in
theorem c_X2_secondStep (l : Launch) (dC : Nat → ClassId) (dI : Nat → Nat → Nat) (cI cZ cB cJ cM : ClassId) (h0 gn gf gp gs gr : Nat) (p0 : Int32) (sz : Nat) : Met l yX2_secondStep (kw yX2_secondStep cX2_secondStep 2 (some .int)) ({ frames := 0, cells := 0, slots := 0, locals := 0 }) (va_Pc [.ref h0, .int p0] (kPre dC dI [(cI, .int), (cZ, .boolean), (cB, .byte), (cJ, .long), (cM, .object RX2)] [(h0, .inr (2, [.int 0, .int 0, .int 0, .int 0, .int 0, .int 0, .int 0, .int 0, .int 0, .ref gn, .ref gf, .ref gp, .ref gs, .ref gr]))] sz)) (va_Qi (fun (r : Int32) (_ : Unit) => r = 0) (fun _ t => va_P (dC, dI) vwCl [(h0, .inr (2, [.int 0, .int 0, .int 0, .int 0, .int 0, .int 0, .int 0, .int 0, .int 0, .ref gn, .ref gf, .ref gp, .ref gs, .ref gr]))] t.heap ∧ va_D (va_A [(h0, .inr (2, [.int 0, .int 0, .int 0, .int 0, .int 0, .int 0, .int 0, .int 0, .int 0, .ref gn, .ref gf, .ref gp, .ref gs, .ref gr]))] sz) [(h0, .inr (2, [.int 0, .int 0, .int 0, .int 0, .int 0, .int 0, .int 0, .int 0, .int 0, .ref gn, .ref gf, .ref gp, .ref gs, .ref gr]))]) (va_A [(h0, .inr (2, [.int 0, .int 0, .int 0, .int 0, .int 0, .int 0, .int 0, .int 0, .int 0, .ref gn, .ref gf, .ref gp, .ref gs, .ref gr]))] sz)) 0 0 (va_A [(h0, .inr (2, [.int 0, .int 0, .int 0, .int 0, .int 0, .int 0, .int 0, .int 0, .int 0, .ref gn, .ref gf, .ref gp, .ref gs, .ref gr]))] sz) := by
  refine kEnter (by decide) (Nat.le_of_ble_eq_true rfl) ?_
  intro p e s m below meth c ls hx hb hr hml hown hlocks hin hwd hsz hP hK hD hl
  subst hsz
  generalize hAe : va_A [(h0, .inr (2, [.int 0, .int 0, .int 0, .int 0, .int 0, .int 0, .int 0, .int 0, .int 0, .ref gn, .ref gf, .ref gp, .ref gs, .ref gr]))] s.heap.size = A at hD ⊢
  have hA : ∀ q : Nat, s.heap.size ≤ q → A q := fun q h => by rw [← hAe]; exact Or.inr h
  have hS : va_S A s.heap s.heap [] := va_S.rf
  have hl : lv_has ls 2 [(0, .ref h0), (1, .int p0)] := hl
  refine lv_aload_n hx hb dX2_secondStep_0 rfl (lv_at hl 0 rfl) ?_
  refine va_get (D := (dC, dI)) (ci := 2) (v := .int 0) (C := RX2) (T := TX2) (N := 14) hx hb hwd inlX2 hown hK hP 0 rfl rfl 7 (by decide) (hwd _ kr10_6) (fun _ h9 => h9) rfl dX2_secondStep_1 ?_
  refine lv_iconst (v := 1) hx hb dX2_secondStep_4 (by decide) ?_
  refine lv_icmp_ge (tgt := 12) hx hb dX2_secondStep_5 (by decide) (fun c1 => absurd c1 (by decide)) (fun c1 => ?_)
  refine lv_iconst (v := 0) hx hb dX2_secondStep_8 (by decide) ?_
  refine lv_goto (tgt := 27) hx hb dX2_secondStep_9 (by decide) ?_
  have hP9 := hP.sub (ws' := [(h0, .inr (2, [.int 0, .int 0, .int 0, .int 0, .int 0, .int 0, .int 0, .int 0, .int 0, .ref gn, .ref gf, .ref gp, .ref gs, .ref gr]))]) [0] rfl
  have hD9 := hD.sub (ws' := [(h0, .inr (2, [.int 0, .int 0, .int 0, .int 0, .int 0, .int 0, .int 0, .int 0, .int 0, .ref gn, .ref gf, .ref gp, .ref gs, .ref gr]))]) [0] (by decide) rfl
  exact W.iret (v := 0) hx hb hr (fun t ht hW => ⟨⟨0, (), rfl, rfl, (by rw [ht]; exact hP9), hD9⟩, hS.F ht⟩) hS.2.2 dX2_secondStep_27
set_option maxHeartbeats 4000000 in
set_option maxRecDepth 100000 in
theorem c_X3_brokenBits (l : Launch) (dC : Nat → ClassId) (dI : Nat → Nat → Nat) (cI cZ cB cJ cM : ClassId) (h0 a0 a1 a2 a3 a4 a5 a6 : Nat) (sz : Nat) : Met l yX3_brokenBits (kw yX3_brokenBits cX3_brokenBits 3 (some .int)) ({ frames := 0, cells := 0, slots := 0, locals := 0 }) (va_Pc [.ref h0] (kPre dC dI [(cI, .int), (cZ, .boolean), (cB, .byte), (cJ, .long), (cM, .object RX2)] [(h0, .inr (3, [.int 0, .ref a0, .ref a1, .ref a2, .ref a3, .ref a4, .ref a5, .ref a6]))] sz)) (va_Qi (fun (r : Int32) (_ : Unit) => r = 0) (fun _ t => va_P (dC, dI) vwCl [(h0, .inr (3, [.int 0, .ref a0, .ref a1, .ref a2, .ref a3, .ref a4, .ref a5, .ref a6]))] t.heap ∧ va_D (va_A [(h0, .inr (3, [.int 0, .ref a0, .ref a1, .ref a2, .ref a3, .ref a4, .ref a5, .ref a6]))] sz) [(h0, .inr (3, [.int 0, .ref a0, .ref a1, .ref a2, .ref a3, .ref a4, .ref a5, .ref a6]))]) (va_A [(h0, .inr (3, [.int 0, .ref a0, .ref a1, .ref a2, .ref a3, .ref a4, .ref a5, .ref a6]))] sz)) 0 0 (va_A [(h0, .inr (3, [.int 0, .ref a0, .ref a1, .ref a2, .ref a3, .ref a4, .ref a5, .ref a6]))] sz) := by
  refine kEnter (by decide) (Nat.le_of_ble_eq_true rfl) ?_
  intro p e s m below meth c ls hx hb hr hml hown hlocks hin hwd hsz hP hK hD hl
  subst hsz
  generalize hAe : va_A [(h0, .inr (3, [.int 0, .ref a0, .ref a1, .ref a2, .ref a3, .ref a4, .ref a5, .ref a6]))] s.heap.size = A at hD ⊢
  have hA : ∀ q : Nat, s.heap.size ≤ q → A q := fun q h => by rw [← hAe]; exact Or.inr h
  have hS : va_S A s.heap s.heap [] := va_S.rf
  have hl : lv_has ls 3 [(0, .ref h0)] := hl
  refine lv_iconst (v := 0) hx hb dX3_brokenBits_0 (by decide) ?_
  refine lv_istore_n (lv' := [(1, .int 0), (0, .ref h0)]) hx hb dX3_brokenBits_1 rfl hl (by decide) rfl (fun ls hl => ?_)
  refine lv_iconst (v := 0) hx hb dX3_brokenBits_2 (by decide) ?_
  refine lv_istore_n (lv' := [(2, .int 0), (1, .int 0), (0, .ref h0)]) hx hb dX3_brokenBits_3 rfl hl (by decide) rfl (fun ls hl => ?_)
  refine lv_iload_n hx hb dX3_brokenBits_4 rfl (lv_at hl 0 rfl) ?_
  refine lv_aload_n hx hb dX3_brokenBits_5 rfl (lv_at hl 2 rfl) ?_
  refine va_get (D := (dC, dI)) (ci := 3) (v := .int 0) (C := RX3) (T := TX3) (N := 8) hx hb hwd inlX3 hown hK hP 0 rfl rfl 0 (by decide) (hwd _ kr12_2) (fun _ h9 => h9) rfl dX3_brokenBits_6 ?_
  refine lv_icmp_ge (tgt := 33) hx hb dX3_brokenBits_9 (by decide) (fun c1 => ?_) (fun c1 => absurd c1 (by decide))
  refine lv_iload_n hx hb dX3_brokenBits_33 rfl (lv_at hl 1 rfl) ?_
  have hP9 := hP.sub (ws' := [(h0, .inr (3, [.int 0, .ref a0, .ref a1, .ref a2, .ref a3, .ref a4, .ref a5, .ref a6]))]) [0] rfl
  have hD9 := hD.sub (ws' := [(h0, .inr (3, [.int 0, .ref a0, .ref a1, .ref a2, .ref a3, .ref a4, .ref a5, .ref a6]))]) [0] (by decide) rfl
  exact W.iret (v := 0) hx hb hr (fun t ht hW => ⟨⟨0, (), rfl, rfl, (by rw [ht]; exact hP9), hD9⟩, hS.F ht⟩) hS.2.2 dX3_brokenBits_34
