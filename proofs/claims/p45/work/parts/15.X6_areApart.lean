theorem dX6_areApart_0 : decode cX6_areApart 0 = .ok (.iconst 0, 1) := by decide +kernel
theorem dX6_areApart_1 : decode cX6_areApart 1 = .ok (.istore_n 3, 1) := by decide +kernel
theorem dX6_areApart_2 : decode cX6_areApart 2 = .ok (.iload_n 3, 1) := by decide +kernel
theorem dX6_areApart_3 : decode cX6_areApart 3 = .ok (.aload_n 0, 1) := by decide +kernel
theorem dX6_areApart_4 : decode cX6_areApart 4 = .ok (.getfield 19, 3) := by decide +kernel
theorem dX6_areApart_7 : decode cX6_areApart 7 = .ok (.if_icmp .ge 63, 3) := by decide +kernel
theorem dX6_areApart_10 : decode cX6_areApart 10 = .ok (.iconst 0, 1) := by decide +kernel
theorem dX6_areApart_11 : decode cX6_areApart 11 = .ok (.istore 4, 2) := by decide +kernel
theorem dX6_areApart_13 : decode cX6_areApart 13 = .ok (.iload 4, 2) := by decide +kernel
theorem dX6_areApart_15 : decode cX6_areApart 15 = .ok (.iload_n 3, 1) := by decide +kernel
theorem dX6_areApart_16 : decode cX6_areApart 16 = .ok (.if_icmp .ge 48, 3) := by decide +kernel
theorem dX6_areApart_19 : decode cX6_areApart 19 = .ok (.iload_n 1, 1) := by decide +kernel
theorem dX6_areApart_20 : decode cX6_areApart 20 = .ok (.iload_n 3, 1) := by decide +kernel
theorem dX6_areApart_21 : decode cX6_areApart 21 = .ok (.ishr, 1) := by decide +kernel
theorem dX6_areApart_22 : decode cX6_areApart 22 = .ok (.iconst 1, 1) := by decide +kernel
theorem dX6_areApart_23 : decode cX6_areApart 23 = .ok (.iand, 1) := by decide +kernel
theorem dX6_areApart_24 : decode cX6_areApart 24 = .ok (.iconst 1, 1) := by decide +kernel
theorem dX6_areApart_25 : decode cX6_areApart 25 = .ok (.if_icmp .ne 33, 3) := by decide +kernel
theorem dX6_areApart_28 : decode cX6_areApart 28 = .ok (.iload_n 1, 1) := by decide +kernel
theorem dX6_areApart_29 : decode cX6_areApart 29 = .ok (.iload 4, 2) := by decide +kernel
theorem dX6_areApart_31 : decode cX6_areApart 31 = .ok (.ishr, 1) := by decide +kernel
theorem dX6_areApart_32 : decode cX6_areApart 32 = .ok (.iconst 1, 1) := by decide +kernel
theorem dX6_areApart_33 : decode cX6_areApart 33 = .ok (.iand, 1) := by decide +kernel
theorem dX6_areApart_34 : decode cX6_areApart 34 = .ok (.iconst 1, 1) := by decide +kernel
theorem dX6_areApart_35 : decode cX6_areApart 35 = .ok (.if_icmp .ne 23, 3) := by decide +kernel
theorem dX6_areApart_38 : decode cX6_areApart 38 = .ok (.aload_n 0, 1) := by decide +kernel
theorem dX6_areApart_39 : decode cX6_areApart 39 = .ok (.getfield 9, 3) := by decide +kernel
theorem dX6_areApart_42 : decode cX6_areApart 42 = .ok (.iload_n 3, 1) := by decide +kernel
theorem dX6_areApart_43 : decode cX6_areApart 43 = .ok (.iaload, 1) := by decide +kernel
theorem dX6_areApart_44 : decode cX6_areApart 44 = .ok (.aload_n 0, 1) := by decide +kernel
theorem dX6_areApart_45 : decode cX6_areApart 45 = .ok (.getfield 9, 3) := by decide +kernel
theorem dX6_areApart_48 : decode cX6_areApart 48 = .ok (.iload 4, 2) := by decide +kernel
theorem dX6_areApart_50 : decode cX6_areApart 50 = .ok (.iaload, 1) := by decide +kernel
theorem dX6_areApart_51 : decode cX6_areApart 51 = .ok (.iadd, 1) := by decide +kernel
theorem dX6_areApart_52 : decode cX6_areApart 52 = .ok (.iload_n 2, 1) := by decide +kernel
theorem dX6_areApart_53 : decode cX6_areApart 53 = .ok (.if_icmp .gt 5, 3) := by decide +kernel
theorem dX6_areApart_56 : decode cX6_areApart 56 = .ok (.iconst 0, 1) := by decide +kernel
theorem dX6_areApart_57 : decode cX6_areApart 57 = .ok (.ireturn, 1) := by decide +kernel
theorem dX6_areApart_58 : decode cX6_areApart 58 = .ok (.iinc 4 1, 3) := by decide +kernel
theorem dX6_areApart_61 : decode cX6_areApart 61 = .ok (.goto (-48), 3) := by decide +kernel
theorem dX6_areApart_64 : decode cX6_areApart 64 = .ok (.iinc 3 1, 3) := by decide +kernel
theorem dX6_areApart_67 : decode cX6_areApart 67 = .ok (.goto (-65), 3) := by decide +kernel
theorem dX6_areApart_70 : decode cX6_areApart 70 = .ok (.iconst 1, 1) := by decide +kernel
theorem dX6_areApart_71 : decode cX6_areApart 71 = .ok (.ireturn, 1) := by decide +kernel
set_option maxHeartbeats 4000000 in
set_option maxRecDepth 100000 in
theorem s_X6_areApart (l : Launch) (dC : Nat → ClassId) (dI : Nat → Nat → Nat) (cI cZ cB cJ cM cG : ClassId) (a0 a1 a2 a3 : Nat) (i0 : Int32) (xF0 : Nat → Int32) (p0 p1 : Int32) (sz : Nat) (p_0 : (0 : Int) ≤ i0.toInt ∧ i0.toInt ≤ 8) : Met l yX6_areApart (kw yX6_areApart cX6_areApart 5 (some .boolean)) ({ frames := 0, cells := 0, slots := 0, locals := 0 } : Room) (va_Pc [.ref a0, .int p0, .int p1] (kPre dC dI [(cI, .int), (cZ, .boolean), (cB, .byte), (cJ, .long), (cM, .object RX2), (cG, .array .int)] [(a0, .inr (6, [.int i0, .ref a1, .ref a2, .ref a3])), (a1, .inl (cI, 8, .inl xF0))] sz)) (va_Qi (fun (r : Int32) (u9 : Unit) => ((0 : Int) ≤ r.toInt ∧ r.toInt ≤ 1) ∧ True) (fun u9 t => va_P (dC, dI) vwCl [(a0, .inr (6, [.int i0, .ref a1, .ref a2, .ref a3])), (a1, .inl (cI, 8, .inl xF0))] t.heap ∧ va_D (va_A [(a0, .inr (6, [.int i0, .ref a1, .ref a2, .ref a3])), (a1, .inl (cI, 8, .inl xF0))] sz) [(a0, .inr (6, [.int i0, .ref a1, .ref a2, .ref a3])), (a1, .inl (cI, 8, .inl xF0))]) (va_A [(a0, .inr (6, [.int i0, .ref a1, .ref a2, .ref a3])), (a1, .inl (cI, 8, .inl xF0))] sz)) 0 0 (va_A [(a0, .inr (6, [.int i0, .ref a1, .ref a2, .ref a3])), (a1, .inl (cI, 8, .inl xF0))] sz) := by
  refine kEnter (by decide) (Nat.le_of_ble_eq_true rfl) ?_
  intro p e s m below meth c ls hx hb hr hml hown hlocks hin hwd hsz hP hK hD hl
  subst hsz
  generalize hAe : va_A [(a0, .inr (6, [.int i0, .ref a1, .ref a2, .ref a3])), (a1, .inl (cI, 8, .inl xF0))] s.heap.size = A at hD ⊢
  have hA : ∀ q : Nat, s.heap.size ≤ q → A q := fun q h => by rw [← hAe]; exact Or.inr h
  have hS : va_S A s.heap s.heap [] := va_S.rf
  have hl : lv_has ls 5 [(0, .ref a0), (1, .int p0), (2, .int p1)] := hl
  obtain ⟨Q, hQ⟩ : ∃ Q, Q = MQ below (va_Qi (fun (r : Int32) (u9 : Unit) => ((0 : Int) ≤ r.toInt ∧ r.toInt ≤ 1) ∧ True) (fun u9 t => va_P (dC, dI) vwCl [(a0, .inr (6, [.int i0, .ref a1, .ref a2, .ref a3])), (a1, .inl (cI, 8, .inl xF0))] t.heap ∧ va_D A [(a0, .inr (6, [.int i0, .ref a1, .ref a2, .ref a3])), (a1, .inl (cI, 8, .inl xF0))]) A) ([.ref a0, .int p0, .int p1] : List Value).toArray s 0 0 A := ⟨_, rfl⟩
  rw [← hQ]
  have k0 : (0 : Int32).toInt = 0 := by decide
  have k1 : (1 : Int32).toInt = 1 := by decide
  refine lv_iconst (v := 0) hx hb dX6_areApart_0 (by decide) ?_
  refine lv_istore_n (lv' := [(3, .int 0), (0, .ref a0), (1, .int p0), (2, .int p1)]) hx hb dX6_areApart_1 rfl hl (by decide) rfl (fun ls hl => ?_)
  have lp1 : ∀ (d : Nat), ∀ (H : Heap) (locs : List Loc) (ls : Array Slot) (w3_1 : Int32), ((0 : Int) ≤ w3_1.toInt ∧ w3_1.toInt ≤ 8) → (8 - w3_1.toInt).toNat < d → va_P (dC, dI) vwCl [(a0, .inr (6, [.int i0, .ref a1, .ref a2, .ref a3])), (a1, .inl (cI, 8, .inl xF0))] H → va_D A [(a0, .inr (6, [.int i0, .ref a1, .ref a2, .ref a3])), (a1, .inl (cI, 8, .inl xF0))] → va_S A s.heap H locs → lv_has ls 5 [(0, .ref a0), (1, .int p0), (2, .int p1), (3, .int w3_1)] → W p l e ({ frames := 0, cells := 0, slots := 0, locals := 0 } : Room) s m ([.ref a0, .int p0, .int p1] : List Value).toArray below meth c H locs 0 0 Q (F0 m 2 ls []) := by
    intro d
    induction d with
    | zero =>
      intro H locs ls w3_1 hr_w3_1 hm hP hD hS hl
      omega
    | succ d ih1 =>
      intro H locs ls w3_1 hr_w3_1 hm hP hD hS hl
      refine lv_iload_n hx hb dX6_areApart_2 rfl (lv_at hl 3 rfl) ?_
      refine lv_aload_n hx hb dX6_areApart_3 rfl (lv_at hl 0 rfl) ?_
      refine va_get (D := (dC, dI)) (ci := 6) (v := .int i0) (C := RX6) (T := TX6) (N := 4) hx hb hwd inlX6 hown hK hP 0 rfl rfl 0 (by decide) (hwd _ kr54_20) (fun _ h9 => h9) rfl dX6_areApart_4 ?_
      refine lv_icmp_ge (tgt := 70) hx hb dX6_areApart_7 (by decide) (fun c385 => ?_) (fun c385 => ?_)
      · rw [ki_le] at c385
        refine lv_iconst (v := 1) hx hb dX6_areApart_70 (by decide) ?_
        have hP9 := hP.sub (ws' := [(a0, .inr (6, [.int i0, .ref a1, .ref a2, .ref a3])), (a1, .inl (cI, 8, .inl xF0))]) [0, 1] rfl
        have hD9 := hD.sub (ws' := [(a0, .inr (6, [.int i0, .ref a1, .ref a2, .ref a3])), (a1, .inl (cI, 8, .inl xF0))]) [0, 1] (by decide) rfl
        rw [hQ]
        exact W.zret (v := 1) hx hb hr (by decide) (fun t ht hW => ⟨⟨1, (), rfl, ⟨(show (0 : Int) ≤ (1 : Int32).toInt ∧ (1 : Int32).toInt ≤ 1 from ⟨by omega, by omega⟩), trivial⟩, (by rw [ht]; exact hP9), hD9⟩, hS.F ht⟩) hS.2.2 dX6_areApart_71
      · rw [ki_le] at c385
        refine lv_iconst (v := 0) hx hb dX6_areApart_10 (by decide) ?_
        refine lv_istore (lv' := [(4, .int 0), (0, .ref a0), (1, .int p0), (2, .int p1), (3, .int w3_1)]) hx hb dX6_areApart_11 hl (by decide) rfl (fun ls hl => ?_)
        have lp7 : ∀ (d : Nat), ∀ (H : Heap) (locs : List Loc) (ls : Array Slot) (w4_7 : Int32), ((0 : Int) ≤ w4_7.toInt ∧ w4_7.toInt ≤ 7) → (7 - w4_7.toInt).toNat < d → va_P (dC, dI) vwCl [(a0, .inr (6, [.int i0, .ref a1, .ref a2, .ref a3])), (a1, .inl (cI, 8, .inl xF0))] H → va_D A [(a0, .inr (6, [.int i0, .ref a1, .ref a2, .ref a3])), (a1, .inl (cI, 8, .inl xF0))] → va_S A s.heap H locs → lv_has ls 5 [(0, .ref a0), (1, .int p0), (2, .int p1), (3, .int w3_1), (4, .int w4_7)] → W p l e ({ frames := 0, cells := 0, slots := 0, locals := 0 } : Room) s m ([.ref a0, .int p0, .int p1] : List Value).toArray below meth c H locs 0 0 Q (F0 m 13 ls []) := by
          intro d
          induction d with
          | zero =>
            intro H locs ls w4_7 hr_w4_7 hm hP hD hS hl
            omega
          | succ d ih7 =>
            intro H locs ls w4_7 hr_w4_7 hm hP hD hS hl
            refine lv_iload hx hb dX6_areApart_13 (lv_at hl 4 rfl) ?_
            refine lv_iload_n hx hb dX6_areApart_15 rfl (lv_at hl 3 rfl) ?_
            refine lv_icmp_ge (tgt := 64) hx hb dX6_areApart_16 (by decide) (fun c467 => ?_) (fun c467 => ?_)
            · rw [ki_le] at c467
              obtain ⟨x468, ex468⟩ : ∃ y : Int32, y = w3_1 + 1 := ⟨_, rfl⟩
              refine lv_iinc (v := x468) (lv' := [(3, .int x468), (0, .ref a0), (1, .int p0), (2, .int p1), (4, .int w4_7)]) hx hb dX6_areApart_64 hl (k := 3) rfl (by rw [ex468]; rfl) (by decide) rfl (fun ls hl => ?_)
              have tx468 := ia_add (a := w3_1) (b := (1 : Int32)) (by omega) (by omega)
              rw [← ex468] at tx468
              refine lv_goto (tgt := 2) hx hb dX6_areApart_67 (by decide) ?_
              exact ih1 _ _ ls x468 (show (0 : Int) ≤ x468.toInt ∧ x468.toInt ≤ 8 from ⟨by omega, by omega⟩) (by omega) (hP.sub (ws' := [(a0, .inr (6, [.int i0, .ref a1, .ref a2, .ref a3])), (a1, .inl (cI, 8, .inl xF0))]) [0, 1] rfl) (hD.sub (ws' := [(a0, .inr (6, [.int i0, .ref a1, .ref a2, .ref a3])), (a1, .inl (cI, 8, .inl xF0))]) [0, 1] (by decide) rfl) hS (lv_sub hl [1, 2, 3, 0] rfl)
            · rw [ki_le] at c467
              refine lv_iload_n hx hb dX6_areApart_19 rfl (lv_at hl 1 rfl) ?_
              refine lv_iload_n hx hb dX6_areApart_20 rfl (lv_at hl 3 rfl) ?_
              refine lv_ishr hx hb dX6_areApart_21 ?_
              refine lv_topi (fun x469 ex469 => ?_)
              refine lv_iconst (v := 1) hx hb dX6_areApart_22 (by decide) ?_
              refine lv_iand hx hb dX6_areApart_23 ?_
              refine lv_topi (fun x470 ex470 => ?_)
              have tx470 := ia_and (a := x469) (m := (1 : Int32)) (by decide)
              rw [← ex470] at tx470
              refine lv_iconst (v := 1) hx hb dX6_areApart_24 (by decide) ?_
              refine lv_icmp_ne (tgt := 58) hx hb dX6_areApart_25 (by decide) (fun c471 => ?_) (fun c471 => ?_)
              · rw [ki_eq] at c471
                obtain ⟨x472, ex472⟩ : ∃ y : Int32, y = w4_7 + 1 := ⟨_, rfl⟩
                refine lv_iinc (v := x472) (lv' := [(4, .int x472), (0, .ref a0), (1, .int p0), (2, .int p1), (3, .int w3_1)]) hx hb dX6_areApart_58 hl (k := 4) rfl (by rw [ex472]; rfl) (by decide) rfl (fun ls hl => ?_)
                have tx472 := ia_add (a := w4_7) (b := (1 : Int32)) (by omega) (by omega)
                rw [← ex472] at tx472
                refine lv_goto (tgt := 13) hx hb dX6_areApart_61 (by decide) ?_
                exact ih7 _ _ ls x472 (show (0 : Int) ≤ x472.toInt ∧ x472.toInt ≤ 7 from ⟨by omega, by omega⟩) (by omega) (hP.sub (ws' := [(a0, .inr (6, [.int i0, .ref a1, .ref a2, .ref a3])), (a1, .inl (cI, 8, .inl xF0))]) [0, 1] rfl) (hD.sub (ws' := [(a0, .inr (6, [.int i0, .ref a1, .ref a2, .ref a3])), (a1, .inl (cI, 8, .inl xF0))]) [0, 1] (by decide) rfl) hS (lv_sub hl [1, 2, 3, 4, 0] rfl)
              · rw [ki_eq] at c471
                refine lv_iload_n hx hb dX6_areApart_28 rfl (lv_at hl 1 rfl) ?_
                refine lv_iload hx hb dX6_areApart_29 (lv_at hl 4 rfl) ?_
                refine lv_ishr hx hb dX6_areApart_31 ?_
                refine lv_topi (fun x473 ex473 => ?_)
                refine lv_iconst (v := 1) hx hb dX6_areApart_32 (by decide) ?_
                refine lv_iand hx hb dX6_areApart_33 ?_
                refine lv_topi (fun x474 ex474 => ?_)
                have tx474 := ia_and (a := x473) (m := (1 : Int32)) (by decide)
                rw [← ex474] at tx474
                refine lv_iconst (v := 1) hx hb dX6_areApart_34 (by decide) ?_
                refine lv_icmp_ne (tgt := 58) hx hb dX6_areApart_35 (by decide) (fun c475 => ?_) (fun c475 => ?_)
                · rw [ki_eq] at c475
                  obtain ⟨x476, ex476⟩ : ∃ y : Int32, y = w4_7 + 1 := ⟨_, rfl⟩
                  refine lv_iinc (v := x476) (lv' := [(4, .int x476), (0, .ref a0), (1, .int p0), (2, .int p1), (3, .int w3_1)]) hx hb dX6_areApart_58 hl (k := 4) rfl (by rw [ex476]; rfl) (by decide) rfl (fun ls hl => ?_)
                  have tx476 := ia_add (a := w4_7) (b := (1 : Int32)) (by omega) (by omega)
                  rw [← ex476] at tx476
                  refine lv_goto (tgt := 13) hx hb dX6_areApart_61 (by decide) ?_
                  exact ih7 _ _ ls x476 (show (0 : Int) ≤ x476.toInt ∧ x476.toInt ≤ 7 from ⟨by omega, by omega⟩) (by omega) (hP.sub (ws' := [(a0, .inr (6, [.int i0, .ref a1, .ref a2, .ref a3])), (a1, .inl (cI, 8, .inl xF0))]) [0, 1] rfl) (hD.sub (ws' := [(a0, .inr (6, [.int i0, .ref a1, .ref a2, .ref a3])), (a1, .inl (cI, 8, .inl xF0))]) [0, 1] (by decide) rfl) hS (lv_sub hl [1, 2, 3, 4, 0] rfl)
                · rw [ki_eq] at c475
                  refine lv_aload_n hx hb dX6_areApart_38 rfl (lv_at hl 0 rfl) ?_
                  refine va_get (D := (dC, dI)) (ci := 6) (v := .ref a1) (C := RX6) (T := TX6) (N := 4) hx hb hwd inlX6 hown hK hP 0 rfl rfl 1 (by decide) (hwd _ kr4_15) (fun _ h9 => h9) rfl dX6_areApart_39 ?_
                  refine lv_iload_n hx hb dX6_areApart_42 rfl (lv_at hl 3 rfl) ?_
                  have h477 : vp_in w3_1 8 := (vp_of (by omega) (by omega))
                  refine va_iald hx hb hK hP 1 0 rfl rfl h477 dX6_areApart_43 ?_
                  refine lv_topi (fun x478 ex478 => ?_)
                  refine lv_aload_n hx hb dX6_areApart_44 rfl (lv_at hl 0 rfl) ?_
                  refine va_get (D := (dC, dI)) (ci := 6) (v := .ref a1) (C := RX6) (T := TX6) (N := 4) hx hb hwd inlX6 hown hK hP 0 rfl rfl 1 (by decide) (hwd _ kr4_15) (fun _ h9 => h9) rfl dX6_areApart_45 ?_
                  refine lv_iload hx hb dX6_areApart_48 (lv_at hl 4 rfl) ?_
                  have h479 : vp_in w4_7 8 := (vp_of (by omega) (by omega))
                  refine va_iald hx hb hK hP 1 0 rfl rfl h479 dX6_areApart_50 ?_
                  refine lv_topi (fun x480 ex480 => ?_)
                  refine lv_iadd hx hb dX6_areApart_51 ?_
                  refine lv_topi (fun x481 ex481 => ?_)
                  refine lv_iload_n hx hb dX6_areApart_52 rfl (lv_at hl 2 rfl) ?_
                  refine lv_icmp_gt (tgt := 58) hx hb dX6_areApart_53 (by decide) (fun c482 => ?_) (fun c482 => ?_)
                  · rw [ki_lt] at c482
                    obtain ⟨x483, ex483⟩ : ∃ y : Int32, y = w4_7 + 1 := ⟨_, rfl⟩
                    refine lv_iinc (v := x483) (lv' := [(4, .int x483), (0, .ref a0), (1, .int p0), (2, .int p1), (3, .int w3_1)]) hx hb dX6_areApart_58 hl (k := 4) rfl (by rw [ex483]; rfl) (by decide) rfl (fun ls hl => ?_)
                    have tx483 := ia_add (a := w4_7) (b := (1 : Int32)) (by omega) (by omega)
                    rw [← ex483] at tx483
                    refine lv_goto (tgt := 13) hx hb dX6_areApart_61 (by decide) ?_
                    exact ih7 _ _ ls x483 (show (0 : Int) ≤ x483.toInt ∧ x483.toInt ≤ 7 from ⟨by omega, by omega⟩) (by omega) (hP.sub (ws' := [(a0, .inr (6, [.int i0, .ref a1, .ref a2, .ref a3])), (a1, .inl (cI, 8, .inl xF0))]) [0, 1] rfl) (hD.sub (ws' := [(a0, .inr (6, [.int i0, .ref a1, .ref a2, .ref a3])), (a1, .inl (cI, 8, .inl xF0))]) [0, 1] (by decide) rfl) hS (lv_sub hl [1, 2, 3, 4, 0] rfl)
                  · rw [ki_lt] at c482
                    refine lv_iconst (v := 0) hx hb dX6_areApart_56 (by decide) ?_
                    have hP9 := hP.sub (ws' := [(a0, .inr (6, [.int i0, .ref a1, .ref a2, .ref a3])), (a1, .inl (cI, 8, .inl xF0))]) [0, 1] rfl
                    have hD9 := hD.sub (ws' := [(a0, .inr (6, [.int i0, .ref a1, .ref a2, .ref a3])), (a1, .inl (cI, 8, .inl xF0))]) [0, 1] (by decide) rfl
                    rw [hQ]
                    exact W.zret (v := 0) hx hb hr (by decide) (fun t ht hW => ⟨⟨0, (), rfl, ⟨(show (0 : Int) ≤ (0 : Int32).toInt ∧ (0 : Int32).toInt ≤ 1 from ⟨by omega, by omega⟩), trivial⟩, (by rw [ht]; exact hP9), hD9⟩, hS.F ht⟩) hS.2.2 dX6_areApart_57
        exact lp7 _ _ _ ls (0) (show (0 : Int) ≤ (0 : Int32).toInt ∧ (0 : Int32).toInt ≤ 7 from ⟨by omega, by omega⟩) (Nat.lt_succ_self _) (hP.sub (ws' := [(a0, .inr (6, [.int i0, .ref a1, .ref a2, .ref a3])), (a1, .inl (cI, 8, .inl xF0))]) [0, 1] rfl) (hD.sub (ws' := [(a0, .inr (6, [.int i0, .ref a1, .ref a2, .ref a3])), (a1, .inl (cI, 8, .inl xF0))]) [0, 1] (by decide) rfl) hS (lv_sub hl [1, 2, 3, 4, 0] rfl)
  exact lp1 _ _ _ ls (0) (show (0 : Int) ≤ (0 : Int32).toInt ∧ (0 : Int32).toInt ≤ 8 from ⟨by omega, by omega⟩) (Nat.lt_succ_self _) (hP.sub (ws' := [(a0, .inr (6, [.int i0, .ref a1, .ref a2, .ref a3])), (a1, .inl (cI, 8, .inl xF0))]) [0, 1] rfl) (hD.sub (ws' := [(a0, .inr (6, [.int i0, .ref a1, .ref a2, .ref a3])), (a1, .inl (cI, 8, .inl xF0))]) [0, 1] (by decide) rfl) hS (lv_sub hl [1, 2, 3, 0] rfl)
theorem dX6_mostApart_0 : decode cX6_mostApart 0 = .ok (.iconst 0, 1) := by decide +kernel
theorem dX6_mostApart_1 : decode cX6_mostApart 1 = .ok (.istore_n 2, 1) := by decide +kernel
theorem dX6_mostApart_2 : decode cX6_mostApart 2 = .ok (.iconst 1, 1) := by decide +kernel
theorem dX6_mostApart_3 : decode cX6_mostApart 3 = .ok (.istore_n 3, 1) := by decide +kernel
theorem dX6_mostApart_4 : decode cX6_mostApart 4 = .ok (.iload_n 3, 1) := by decide +kernel
theorem dX6_mostApart_5 : decode cX6_mostApart 5 = .ok (.iconst 1, 1) := by decide +kernel
theorem dX6_mostApart_6 : decode cX6_mostApart 6 = .ok (.aload_n 0, 1) := by decide +kernel
theorem dX6_mostApart_7 : decode cX6_mostApart 7 = .ok (.getfield 19, 3) := by decide +kernel
theorem dX6_mostApart_10 : decode cX6_mostApart 10 = .ok (.ishl, 1) := by decide +kernel
theorem dX6_mostApart_11 : decode cX6_mostApart 11 = .ok (.if_icmp .ge 27, 3) := by decide +kernel
theorem dX6_mostApart_14 : decode cX6_mostApart 14 = .ok (.aload_n 0, 1) := by decide +kernel
theorem dX6_mostApart_15 : decode cX6_mostApart 15 = .ok (.iload_n 3, 1) := by decide +kernel
theorem dX6_mostApart_16 : decode cX6_mostApart 16 = .ok (.iload_n 1, 1) := by decide +kernel
theorem dX6_mostApart_17 : decode cX6_mostApart 17 = .ok (.invokevirtual 30, 3) := by decide +kernel
theorem dX6_mostApart_20 : decode cX6_mostApart 20 = .ok (.ifCond .eq 12, 3) := by decide +kernel
theorem dX6_mostApart_23 : decode cX6_mostApart 23 = .ok (.iload_n 2, 1) := by decide +kernel
theorem dX6_mostApart_24 : decode cX6_mostApart 24 = .ok (.iload_n 3, 1) := by decide +kernel
theorem dX6_mostApart_25 : decode cX6_mostApart 25 = .ok (.invokestatic 34, 3) := by decide +kernel
theorem dX6_mostApart_28 : decode cX6_mostApart 28 = .ok (.invokestatic 40, 3) := by decide +kernel
theorem dX6_mostApart_31 : decode cX6_mostApart 31 = .ok (.istore_n 2, 1) := by decide +kernel
theorem dX6_mostApart_32 : decode cX6_mostApart 32 = .ok (.iinc 3 1, 3) := by decide +kernel
theorem dX6_mostApart_35 : decode cX6_mostApart 35 = .ok (.goto (-31), 3) := by decide +kernel
theorem dX6_mostApart_38 : decode cX6_mostApart 38 = .ok (.iload_n 2, 1) := by decide +kernel
theorem dX6_mostApart_39 : decode cX6_mostApart 39 = .ok (.ireturn, 1) := by decide +kernel
set_option maxHeartbeats 4000000 in
set_option maxRecDepth 100000 in
theorem s_X6_mostApart (l : Launch) (dC : Nat → ClassId) (dI : Nat → Nat → Nat) (cI cZ cB cJ cM cG : ClassId) (a0 a1 a2 a3 : Nat) (i0 : Int32) (xF0 : Nat → Int32) (p0 : Int32) (sz : Nat) (p_0 : (0 : Int) ≤ i0.toInt ∧ i0.toInt ≤ 8) : Met l yX6_mostApart (kw yX6_mostApart cX6_mostApart 4 (some .int)) ({ frames := 1, cells := 0, slots := 0, locals := 24 } : Room) (va_Pc [.ref a0, .int p0] (kPre dC dI [(cI, .int), (cZ, .boolean), (cB, .byte), (cJ, .long), (cM, .object RX2), (cG, .array .int)] [(a0, .inr (6, [.int i0, .ref a1, .ref a2, .ref a3])), (a1, .inl (cI, 8, .inl xF0))] sz)) (va_Qi (fun (r : Int32) (u9 : Unit) => ((0 : Int) ≤ r.toInt ∧ r.toInt ≤ 63) ∧ True) (fun u9 t => va_P (dC, dI) vwCl [(a0, .inr (6, [.int i0, .ref a1, .ref a2, .ref a3])), (a1, .inl (cI, 8, .inl xF0))] t.heap ∧ va_D (va_A [(a0, .inr (6, [.int i0, .ref a1, .ref a2, .ref a3])), (a1, .inl (cI, 8, .inl xF0))] sz) [(a0, .inr (6, [.int i0, .ref a1, .ref a2, .ref a3])), (a1, .inl (cI, 8, .inl xF0))]) (va_A [(a0, .inr (6, [.int i0, .ref a1, .ref a2, .ref a3])), (a1, .inl (cI, 8, .inl xF0))] sz)) 0 0 (va_A [(a0, .inr (6, [.int i0, .ref a1, .ref a2, .ref a3])), (a1, .inl (cI, 8, .inl xF0))] sz) := by
  refine kEnter (by decide) (Nat.le_of_ble_eq_true rfl) ?_
  intro p e s m below meth c ls hx hb hr hml hown hlocks hin hwd hsz hP hK hD hl
  subst hsz
  generalize hAe : va_A [(a0, .inr (6, [.int i0, .ref a1, .ref a2, .ref a3])), (a1, .inl (cI, 8, .inl xF0))] s.heap.size = A at hD ⊢
  have hA : ∀ q : Nat, s.heap.size ≤ q → A q := fun q h => by rw [← hAe]; exact Or.inr h
  have hS : va_S A s.heap s.heap [] := va_S.rf
  have hl : lv_has ls 4 [(0, .ref a0), (1, .int p0)] := hl
  obtain ⟨Q, hQ⟩ : ∃ Q, Q = MQ below (va_Qi (fun (r : Int32) (u9 : Unit) => ((0 : Int) ≤ r.toInt ∧ r.toInt ≤ 63) ∧ True) (fun u9 t => va_P (dC, dI) vwCl [(a0, .inr (6, [.int i0, .ref a1, .ref a2, .ref a3])), (a1, .inl (cI, 8, .inl xF0))] t.heap ∧ va_D A [(a0, .inr (6, [.int i0, .ref a1, .ref a2, .ref a3])), (a1, .inl (cI, 8, .inl xF0))]) A) ([.ref a0, .int p0] : List Value).toArray s 0 0 A := ⟨_, rfl⟩
  rw [← hQ]
  have k0 : (0 : Int32).toInt = 0 := by decide
  have k1 : (1 : Int32).toInt = 1 := by decide
  refine lv_iconst (v := 0) hx hb dX6_mostApart_0 (by decide) ?_
  refine lv_istore_n (lv' := [(2, .int 0), (0, .ref a0), (1, .int p0)]) hx hb dX6_mostApart_1 rfl hl (by decide) rfl (fun ls hl => ?_)
  refine lv_iconst (v := 1) hx hb dX6_mostApart_2 (by decide) ?_
  refine lv_istore_n (lv' := [(3, .int 1), (2, .int 0), (0, .ref a0), (1, .int p0)]) hx hb dX6_mostApart_3 rfl hl (by decide) rfl (fun ls hl => ?_)
  have lp1 : ∀ (d : Nat), ∀ (H : Heap) (locs : List Loc) (ls : Array Slot) (w2_1 : Int32) (w3_1 : Int32), ((0 : Int) ≤ w2_1.toInt ∧ w2_1.toInt ≤ 63) → ((1 : Int) ≤ w3_1.toInt ∧ w3_1.toInt ≤ 256) → (256 - w3_1.toInt).toNat < d → va_P (dC, dI) vwCl [(a0, .inr (6, [.int i0, .ref a1, .ref a2, .ref a3])), (a1, .inl (cI, 8, .inl xF0))] H → va_D A [(a0, .inr (6, [.int i0, .ref a1, .ref a2, .ref a3])), (a1, .inl (cI, 8, .inl xF0))] → va_S A s.heap H locs → lv_has ls 4 [(0, .ref a0), (1, .int p0), (2, .int w2_1), (3, .int w3_1)] → W p l e ({ frames := 1, cells := 0, slots := 0, locals := 24 } : Room) s m ([.ref a0, .int p0] : List Value).toArray below meth c H locs 0 0 Q (F0 m 4 ls []) := by
    intro d
    induction d with
    | zero =>
      intro H locs ls w2_1 w3_1 hr_w2_1 hr_w3_1 hm hP hD hS hl
      omega
    | succ d ih1 =>
      intro H locs ls w2_1 w3_1 hr_w2_1 hr_w3_1 hm hP hD hS hl
      refine lv_iload_n hx hb dX6_mostApart_4 rfl (lv_at hl 3 rfl) ?_
      refine lv_iconst (v := 1) hx hb dX6_mostApart_5 (by decide) ?_
      refine lv_aload_n hx hb dX6_mostApart_6 rfl (lv_at hl 0 rfl) ?_
      refine va_get (D := (dC, dI)) (ci := 6) (v := .int i0) (C := RX6) (T := TX6) (N := 4) hx hb hwd inlX6 hown hK hP 0 rfl rfl 0 (by decide) (hwd _ kr54_20) (fun _ h9 => h9) rfl dX6_mostApart_7 ?_
      refine lv_ishl hx hb dX6_mostApart_10 ?_
      refine lv_topi (fun x83 ex83 => ?_)
      have tx83 := is_8 (b := i0) (by omega) (by omega)
      rw [← ex83] at tx83
      refine lv_icmp_ge (tgt := 38) hx hb dX6_mostApart_11 (by decide) (fun c84 => ?_) (fun c84 => ?_)
      · rw [ki_le] at c84
        refine lv_iload_n hx hb dX6_mostApart_38 rfl (lv_at hl 2 rfl) ?_
        have hP9 := hP.sub (ws' := [(a0, .inr (6, [.int i0, .ref a1, .ref a2, .ref a3])), (a1, .inl (cI, 8, .inl xF0))]) [0, 1] rfl
        have hD9 := hD.sub (ws' := [(a0, .inr (6, [.int i0, .ref a1, .ref a2, .ref a3])), (a1, .inl (cI, 8, .inl xF0))]) [0, 1] (by decide) rfl
        rw [hQ]
        exact W.iret (v := w2_1) hx hb hr (fun t ht hW => ⟨⟨w2_1, (), rfl, ⟨(show (0 : Int) ≤ w2_1.toInt ∧ w2_1.toInt ≤ 63 from ⟨by omega, by omega⟩), trivial⟩, (by rw [ht]; exact hP9), hD9⟩, hS.F ht⟩) hS.2.2 dX6_mostApart_39
      · rw [ki_le] at c84
        refine lv_aload_n hx hb dX6_mostApart_14 rfl (lv_at hl 0 rfl) ?_
        refine lv_iload_n hx hb dX6_mostApart_15 rfl (lv_at hl 3 rfl) ?_
        refine lv_iload_n hx hb dX6_mostApart_16 rfl (lv_at hl 1 rfl) ?_
        have hPc := hP.sub (ws' := [(a0, .inr (6, [.int i0, .ref a1, .ref a2, .ref a3])), (a1, .inl (cI, 8, .inl xF0))]) [0, 1] rfl
        have hDc := hD.sub (ws' := [(a0, .inr (6, [.int i0, .ref a1, .ref a2, .ref a3])), (a1, .inl (cI, 8, .inl xF0))]) [0, 1] (by decide) rfl
        have hFc := va_free (wc := [(a0, .inr (6, [.int i0, .ref a1, .ref a2, .ref a3])), (a1, .inl (cI, 8, .inl xF0))]) hD hS hA [0, 1] rfl
        refine va_calli (va_runV (As := [.int w3_1, .int p0]) (rest := []) ⟨hx, hb, hml, hown, hwd⟩ (s_X6_areApart l dC dI cI cZ cB cJ cM cG a0 a1 a2 a3 i0 xF0 w3_1 p0 H.size (show (0 : Int) ≤ i0.toInt ∧ i0.toInt ≤ 8 from ⟨by omega, by omega⟩)) (cwV 2 hwd (gV kr56_18 kr56_19 kr56_20 kr2_11 kr56_21) rfl rfl rfl (by decide +kernel) ⟨Nat.le_of_ble_eq_true rfl, Nat.le_of_ble_eq_true rfl⟩) (kPreV hPc hK hDc (ci := 6) (q0 := 0) rfl rfl) rfl rfl hl.1 rfl (lv_room (Nat.le_of_ble_eq_true rfl)) dX6_mostApart_17 ⟨Nat.le_of_ble_eq_true rfl, Nat.le_of_ble_eq_true rfl⟩) hS (fun q _ h => hFc q h) hFc (fun r85 u86 t H1 locs ht9 hvm hw hB hz1 hk1 hS => ?_)
        obtain ⟨hw87, -⟩ := hw
        have hw87 : (0 : Int) ≤ r85.toInt ∧ r85.toInt ≤ 1 := hw87
        obtain ⟨hP1, hD1⟩ := hB
        rw [ht9] at hP1
        obtain ⟨hP, hD⟩ := va_join (wr := []) (w1 := [(a0, .inr (6, [.int i0, .ref a1, .ref a2, .ref a3])), (a1, .inl (cI, 8, .inl xF0))]) hP hD [0, 1] [] rfl rfl (by decide) (by decide) hk1 hFc hP1 hD1
        generalize H1 = H at hP hS ⊢
        have hP : va_P (dC, dI) vwCl [(a0, .inr (6, [.int i0, .ref a1, .ref a2, .ref a3])), (a1, .inl (cI, 8, .inl xF0))] H := hP
        have hD : va_D A [(a0, .inr (6, [.int i0, .ref a1, .ref a2, .ref a3])), (a1, .inl (cI, 8, .inl xF0))] := hD
        refine lv_if_eq (tgt := 32) hx hb dX6_mostApart_20 (by decide) (fun c88 => ?_) (fun c88 => ?_)
        · rw [ki_eq] at c88
          obtain ⟨x89, ex89⟩ : ∃ y : Int32, y = w3_1 + 1 := ⟨_, rfl⟩
          refine lv_iinc (v := x89) (lv' := [(3, .int x89), (0, .ref a0), (1, .int p0), (2, .int w2_1)]) hx hb dX6_mostApart_32 hl (k := 3) rfl (by rw [ex89]; rfl) (by decide) rfl (fun ls hl => ?_)
          have tx89 := ia_add (a := w3_1) (b := (1 : Int32)) (by omega) (by omega)
          rw [← ex89] at tx89
          refine lv_goto (tgt := 4) hx hb dX6_mostApart_35 (by decide) ?_
          exact ih1 _ _ ls w2_1 x89 (show (0 : Int) ≤ w2_1.toInt ∧ w2_1.toInt ≤ 63 from ⟨by omega, by omega⟩) (show (1 : Int) ≤ x89.toInt ∧ x89.toInt ≤ 256 from ⟨by omega, by omega⟩) (by omega) (hP.sub (ws' := [(a0, .inr (6, [.int i0, .ref a1, .ref a2, .ref a3])), (a1, .inl (cI, 8, .inl xF0))]) [0, 1] rfl) (hD.sub (ws' := [(a0, .inr (6, [.int i0, .ref a1, .ref a2, .ref a3])), (a1, .inl (cI, 8, .inl xF0))]) [0, 1] (by decide) rfl) hS (lv_sub hl [1, 2, 3, 0] rfl)
        · rw [ki_eq] at c88
          refine lv_iload_n hx hb dX6_mostApart_23 rfl (lv_at hl 2 rfl) ?_
          refine lv_iload_n hx hb dX6_mostApart_24 rfl (lv_at hl 3 rfl) ?_
          have hPc := hP.sub (ws' := []) [] rfl
          have hDc := hD.sub (ws' := []) [] (by decide) rfl
          have hFc := va_free (wc := []) hD hS hA [] rfl
          refine va_calli (va_runS (As := [.int w3_1]) (rest := [.int w2_1]) ⟨hx, hb, hml, hown, hwd⟩ (s_J6_bitCount_0f7a4 l dC dI cI cZ cB cJ cM cG w3_1 H.size) (va_cwS 1 hwd (gSJ kr56_22 kr56_23 kr57_0 kr57_1) rfl rfl rfl (by decide +kernel) ⟨Nat.le_of_ble_eq_true rfl, Nat.le_of_ble_eq_true rfl⟩) (kPreS hPc hK hDc) rfl rfl hl.1 rfl (lv_room (Nat.le_of_ble_eq_true rfl)) dX6_mostApart_25 ⟨Nat.le_of_ble_eq_true rfl, Nat.le_of_ble_eq_true rfl⟩) hS (fun q _ h => hFc q h) hFc (fun r90 u91 t H1 locs ht9 hvm hw hB hz1 hk1 hS => ?_)
          obtain ⟨hw92, -⟩ := hw
          have hw92 : (0 : Int) ≤ r90.toInt ∧ r90.toInt ≤ 63 := hw92
          obtain ⟨hP1, hD1⟩ := hB
          rw [ht9] at hP1
          obtain ⟨hP, hD⟩ := va_join (wr := [(a0, .inr (6, [.int i0, .ref a1, .ref a2, .ref a3])), (a1, .inl (cI, 8, .inl xF0))]) (w1 := []) hP hD [] [0, 1] rfl rfl (by decide) (by decide) hk1 hFc hP1 hD1
          generalize H1 = H at hP hS ⊢
          have hP : va_P (dC, dI) vwCl [(a0, .inr (6, [.int i0, .ref a1, .ref a2, .ref a3])), (a1, .inl (cI, 8, .inl xF0))] H := hP
          have hD : va_D A [(a0, .inr (6, [.int i0, .ref a1, .ref a2, .ref a3])), (a1, .inl (cI, 8, .inl xF0))] := hD
          refine va_mmax hx hb (by rw [hml]; exact hl.1.symm) hown (hwd _ kr56_17) (hwd _ kr19_3) (hwd _ kr19_4) (hwd _ kr19_5) (Nat.le_of_ble_eq_true rfl) (Nat.le_of_ble_eq_true rfl) (Nat.le_of_ble_eq_true rfl) (Nat.le_of_ble_eq_true rfl) dX6_mostApart_28 ?_
          refine lv_topi (fun x93 ex93 => ?_)
          have tx93 := mx_max w2_1 r90
          rw [← ex93] at tx93
          refine lv_istore_n (lv' := [(2, .int x93), (0, .ref a0), (1, .int p0), (3, .int w3_1)]) hx hb dX6_mostApart_31 rfl hl (by decide) rfl (fun ls hl => ?_)
          obtain ⟨x94, ex94⟩ : ∃ y : Int32, y = w3_1 + 1 := ⟨_, rfl⟩
          refine lv_iinc (v := x94) (lv' := [(3, .int x94), (2, .int x93), (0, .ref a0), (1, .int p0)]) hx hb dX6_mostApart_32 hl (k := 3) rfl (by rw [ex94]; rfl) (by decide) rfl (fun ls hl => ?_)
          have tx94 := ia_add (a := w3_1) (b := (1 : Int32)) (by omega) (by omega)
          rw [← ex94] at tx94
          refine lv_goto (tgt := 4) hx hb dX6_mostApart_35 (by decide) ?_
          exact ih1 _ _ ls x93 x94 (show (0 : Int) ≤ x93.toInt ∧ x93.toInt ≤ 63 from ⟨by omega, by omega⟩) (show (1 : Int) ≤ x94.toInt ∧ x94.toInt ≤ 256 from ⟨by omega, by omega⟩) (by omega) (hP.sub (ws' := [(a0, .inr (6, [.int i0, .ref a1, .ref a2, .ref a3])), (a1, .inl (cI, 8, .inl xF0))]) [0, 1] rfl) (hD.sub (ws' := [(a0, .inr (6, [.int i0, .ref a1, .ref a2, .ref a3])), (a1, .inl (cI, 8, .inl xF0))]) [0, 1] (by decide) rfl) hS (lv_sub hl [2, 3, 1, 0] rfl)
  exact lp1 _ _ _ ls (0) (1) (show (0 : Int) ≤ (0 : Int32).toInt ∧ (0 : Int32).toInt ≤ 63 from ⟨by omega, by omega⟩) (show (1 : Int) ≤ (1 : Int32).toInt ∧ (1 : Int32).toInt ≤ 256 from ⟨by omega, by omega⟩) (Nat.lt_succ_self _) (hP.sub (ws' := [(a0, .inr (6, [.int i0, .ref a1, .ref a2, .ref a3])), (a1, .inl (cI, 8, .inl xF0))]) [0, 1] rfl) (hD.sub (ws' := [(a0, .inr (6, [.int i0, .ref a1, .ref a2, .ref a3])), (a1, .inl (cI, 8, .inl xF0))]) [0, 1] (by decide) rfl) hS (lv_sub hl [2, 3, 1, 0] rfl)
theorem dX0_takeHeights_0 : decode cX0_takeHeights 0 = .ok (.iconst 0, 1) := by decide +kernel
theorem dX0_takeHeights_1 : decode cX0_takeHeights 1 = .ok (.istore_n 3, 1) := by decide +kernel
theorem dX0_takeHeights_2 : decode cX0_takeHeights 2 = .ok (.iload_n 3, 1) := by decide +kernel
theorem dX0_takeHeights_3 : decode cX0_takeHeights 3 = .ok (.aload_n 1, 1) := by decide +kernel
theorem dX0_takeHeights_4 : decode cX0_takeHeights 4 = .ok (.getfield 35, 3) := by decide +kernel
theorem dX0_takeHeights_7 : decode cX0_takeHeights 7 = .ok (.if_icmp .ge 23, 3) := by decide +kernel
theorem dX0_takeHeights_10 : decode cX0_takeHeights 10 = .ok (.aload_n 0, 1) := by decide +kernel
theorem dX0_takeHeights_11 : decode cX0_takeHeights 11 = .ok (.getfield 9, 3) := by decide +kernel
theorem dX0_takeHeights_14 : decode cX0_takeHeights 14 = .ok (.iload_n 3, 1) := by decide +kernel
theorem dX0_takeHeights_15 : decode cX0_takeHeights 15 = .ok (.aload_n 1, 1) := by decide +kernel
theorem dX0_takeHeights_16 : decode cX0_takeHeights 16 = .ok (.iload_n 3, 1) := by decide +kernel
theorem dX0_takeHeights_17 : decode cX0_takeHeights 17 = .ok (.aload_n 2, 1) := by decide +kernel
theorem dX0_takeHeights_18 : decode cX0_takeHeights 18 = .ok (.iload_n 3, 1) := by decide +kernel
theorem dX0_takeHeights_19 : decode cX0_takeHeights 19 = .ok (.iaload, 1) := by decide +kernel
theorem dX0_takeHeights_20 : decode cX0_takeHeights 20 = .ok (.invokevirtual 41, 3) := by decide +kernel
theorem dX0_takeHeights_23 : decode cX0_takeHeights 23 = .ok (.iastore, 1) := by decide +kernel
theorem dX0_takeHeights_24 : decode cX0_takeHeights 24 = .ok (.iinc 3 1, 3) := by decide +kernel
theorem dX0_takeHeights_27 : decode cX0_takeHeights 27 = .ok (.goto (-25), 3) := by decide +kernel
theorem dX0_takeHeights_30 : decode cX0_takeHeights 30 = .ok (.return_, 1) := by decide +kernel
set_option maxHeartbeats 4000000 in
set_option maxRecDepth 100000 in
theorem s_X0_takeHeights (l : Launch) (dC : Nat → ClassId) (dI : Nat → Nat → Nat) (cI cZ cB cJ cM cG : ClassId) (a0 a1 a2 a3 a4 a5 a6 a7 a18 a19 a20 a21 a22 a23 a24 a25 a26 : Nat) (i0 : Int32) (xF0 xF19 xF22 xF23 : Nat → Int32) (sz : Nat) (p_0 : (0 : Int) ≤ i0.toInt ∧ i0.toInt ≤ 24) (p_1 : rng xF19 24 0 60) (p_2 : rng xF22 24 0 1) : Met l yX0_takeHeights (kw yX0_takeHeights cX0_takeHeights 4 none) ({ frames := 2, cells := 0, slots := 0, locals := 46 } : Room) (va_Pc [.ref a0, .ref a18, .ref a26] (kPre dC dI [(cI, .int), (cZ, .boolean), (cB, .byte), (cJ, .long), (cM, .object RX2), (cG, .array .int)] [(a0, .inr (0, [.ref a1, .ref a2, .ref a3, .ref a4, .ref a5, .ref a6, .ref a7])), (a1, .inl (cI, 24, .inl xF0)), (a18, .inr (3, [.int i0, .ref a19, .ref a20, .ref a21, .ref a22, .ref a23, .ref a24, .ref a25])), (a22, .inl (cI, 24, .inl xF19)), (a25, .inl (cZ, 24, .inl xF22)), (a26, .inl (cI, 24, .inl xF23))] sz)) (va_Qv (fun (u9 : (Nat → Int32) × (Nat → Nat → Int32) × (Nat → Nat → Int64)) => True) (fun u9 t => va_P (dC, dI) vwCl [(a0, .inr (0, [.ref a1, .ref a2, .ref a3, .ref a4, .ref a5, .ref a6, .ref a7])), (a1, .inl (cI, 24, .inl (u9.2.1 0))), (a18, .inr (3, [.int i0, .ref a19, .ref a20, .ref a21, .ref a22, .ref a23, .ref a24, .ref a25])), (a22, .inl (cI, 24, .inl xF19)), (a25, .inl (cZ, 24, .inl xF22)), (a26, .inl (cI, 24, .inl xF23))] t.heap ∧ va_D (va_A [(a0, .inr (0, [.ref a1, .ref a2, .ref a3, .ref a4, .ref a5, .ref a6, .ref a7])), (a1, .inl (cI, 24, .inl xF0)), (a18, .inr (3, [.int i0, .ref a19, .ref a20, .ref a21, .ref a22, .ref a23, .ref a24, .ref a25])), (a22, .inl (cI, 24, .inl xF19)), (a25, .inl (cZ, 24, .inl xF22)), (a26, .inl (cI, 24, .inl xF23))] sz) [(a0, .inr (0, [.ref a1, .ref a2, .ref a3, .ref a4, .ref a5, .ref a6, .ref a7])), (a1, .inl (cI, 24, .inl (u9.2.1 0))), (a18, .inr (3, [.int i0, .ref a19, .ref a20, .ref a21, .ref a22, .ref a23, .ref a24, .ref a25])), (a22, .inl (cI, 24, .inl xF19)), (a25, .inl (cZ, 24, .inl xF22)), (a26, .inl (cI, 24, .inl xF23))]) (va_A [(a0, .inr (0, [.ref a1, .ref a2, .ref a3, .ref a4, .ref a5, .ref a6, .ref a7])), (a1, .inl (cI, 24, .inl xF0)), (a18, .inr (3, [.int i0, .ref a19, .ref a20, .ref a21, .ref a22, .ref a23, .ref a24, .ref a25])), (a22, .inl (cI, 24, .inl xF19)), (a25, .inl (cZ, 24, .inl xF22)), (a26, .inl (cI, 24, .inl xF23))] sz)) 0 0 (va_A [(a0, .inr (0, [.ref a1, .ref a2, .ref a3, .ref a4, .ref a5, .ref a6, .ref a7])), (a1, .inl (cI, 24, .inl xF0)), (a18, .inr (3, [.int i0, .ref a19, .ref a20, .ref a21, .ref a22, .ref a23, .ref a24, .ref a25])), (a22, .inl (cI, 24, .inl xF19)), (a25, .inl (cZ, 24, .inl xF22)), (a26, .inl (cI, 24, .inl xF23))] sz) := by
  refine kEnter (by decide) (Nat.le_of_ble_eq_true rfl) ?_
  intro p e s m below meth c ls hx hb hr hml hown hlocks hin hwd hsz hP hK hD hl
  subst hsz
  generalize hAe : va_A [(a0, .inr (0, [.ref a1, .ref a2, .ref a3, .ref a4, .ref a5, .ref a6, .ref a7])), (a1, .inl (cI, 24, .inl xF0)), (a18, .inr (3, [.int i0, .ref a19, .ref a20, .ref a21, .ref a22, .ref a23, .ref a24, .ref a25])), (a22, .inl (cI, 24, .inl xF19)), (a25, .inl (cZ, 24, .inl xF22)), (a26, .inl (cI, 24, .inl xF23))] s.heap.size = A at hD ⊢
  have hA : ∀ q : Nat, s.heap.size ≤ q → A q := fun q h => by rw [← hAe]; exact Or.inr h
  have hS : va_S A s.heap s.heap [] := va_S.rf
  have hl : lv_has ls 4 [(0, .ref a0), (1, .ref a18), (2, .ref a26)] := hl
  obtain ⟨Q, hQ⟩ : ∃ Q, Q = MQ below (va_Qv (fun (u9 : (Nat → Int32) × (Nat → Nat → Int32) × (Nat → Nat → Int64)) => True) (fun u9 t => va_P (dC, dI) vwCl [(a0, .inr (0, [.ref a1, .ref a2, .ref a3, .ref a4, .ref a5, .ref a6, .ref a7])), (a1, .inl (cI, 24, .inl (u9.2.1 0))), (a18, .inr (3, [.int i0, .ref a19, .ref a20, .ref a21, .ref a22, .ref a23, .ref a24, .ref a25])), (a22, .inl (cI, 24, .inl xF19)), (a25, .inl (cZ, 24, .inl xF22)), (a26, .inl (cI, 24, .inl xF23))] t.heap ∧ va_D A [(a0, .inr (0, [.ref a1, .ref a2, .ref a3, .ref a4, .ref a5, .ref a6, .ref a7])), (a1, .inl (cI, 24, .inl (u9.2.1 0))), (a18, .inr (3, [.int i0, .ref a19, .ref a20, .ref a21, .ref a22, .ref a23, .ref a24, .ref a25])), (a22, .inl (cI, 24, .inl xF19)), (a25, .inl (cZ, 24, .inl xF22)), (a26, .inl (cI, 24, .inl xF23))]) A) ([.ref a0, .ref a18, .ref a26] : List Value).toArray s 0 0 A := ⟨_, rfl⟩
  rw [← hQ]
  have k0 : (0 : Int32).toInt = 0 := by decide
  have k1 : (1 : Int32).toInt = 1 := by decide
  refine lv_iconst (v := 0) hx hb dX0_takeHeights_0 (by decide) ?_
  refine lv_istore_n (lv' := [(3, .int 0), (0, .ref a0), (1, .ref a18), (2, .ref a26)]) hx hb dX0_takeHeights_1 rfl hl (by decide) rfl (fun ls hl => ?_)
  have lp1 : ∀ (d : Nat), ∀ (H : Heap) (locs : List Loc) (ls : Array Slot) (w3_1 : Int32) (g1_1 : Nat → Int32), ((0 : Int) ≤ w3_1.toInt ∧ w3_1.toInt ≤ 24) → (24 - w3_1.toInt).toNat < d → va_P (dC, dI) vwCl [(a0, .inr (0, [.ref a1, .ref a2, .ref a3, .ref a4, .ref a5, .ref a6, .ref a7])), (a1, .inl (cI, 24, .inl g1_1)), (a18, .inr (3, [.int i0, .ref a19, .ref a20, .ref a21, .ref a22, .ref a23, .ref a24, .ref a25])), (a22, .inl (cI, 24, .inl xF19)), (a25, .inl (cZ, 24, .inl xF22)), (a26, .inl (cI, 24, .inl xF23))] H → va_D A [(a0, .inr (0, [.ref a1, .ref a2, .ref a3, .ref a4, .ref a5, .ref a6, .ref a7])), (a1, .inl (cI, 24, .inl g1_1)), (a18, .inr (3, [.int i0, .ref a19, .ref a20, .ref a21, .ref a22, .ref a23, .ref a24, .ref a25])), (a22, .inl (cI, 24, .inl xF19)), (a25, .inl (cZ, 24, .inl xF22)), (a26, .inl (cI, 24, .inl xF23))] → va_S A s.heap H locs → lv_has ls 4 [(0, .ref a0), (1, .ref a18), (2, .ref a26), (3, .int w3_1)] → W p l e ({ frames := 2, cells := 0, slots := 0, locals := 46 } : Room) s m ([.ref a0, .ref a18, .ref a26] : List Value).toArray below meth c H locs 0 0 Q (F0 m 2 ls []) := by
    intro d
    induction d with
    | zero =>
      intro H locs ls w3_1 g1_1 hr_w3_1 hm hP hD hS hl
      omega
    | succ d ih1 =>
      intro H locs ls w3_1 g1_1 hr_w3_1 hm hP hD hS hl
      refine lv_iload_n hx hb dX0_takeHeights_2 rfl (lv_at hl 3 rfl) ?_
      refine lv_aload_n hx hb dX0_takeHeights_3 rfl (lv_at hl 1 rfl) ?_
      refine va_get (D := (dC, dI)) (ci := 3) (v := .int i0) (C := RX3) (T := TX3) (N := 8) hx hb hwd inlX3 hown hK hP 2 rfl rfl 0 (by decide) (hwd _ kr18_21) (fun _ h9 => h9) rfl dX0_takeHeights_4 ?_
      refine lv_icmp_ge (tgt := 30) hx hb dX0_takeHeights_7 (by decide) (fun c48 => ?_) (fun c48 => ?_)
      · rw [ki_le] at c48
        have hP9 := hP.sub (ws' := [(a0, .inr (0, [.ref a1, .ref a2, .ref a3, .ref a4, .ref a5, .ref a6, .ref a7])), (a1, .inl (cI, 24, .inl g1_1)), (a18, .inr (3, [.int i0, .ref a19, .ref a20, .ref a21, .ref a22, .ref a23, .ref a24, .ref a25])), (a22, .inl (cI, 24, .inl xF19)), (a25, .inl (cZ, 24, .inl xF22)), (a26, .inl (cI, 24, .inl xF23))]) [0, 1, 2, 3, 4, 5] rfl
        have hD9 := hD.sub (ws' := [(a0, .inr (0, [.ref a1, .ref a2, .ref a3, .ref a4, .ref a5, .ref a6, .ref a7])), (a1, .inl (cI, 24, .inl g1_1)), (a18, .inr (3, [.int i0, .ref a19, .ref a20, .ref a21, .ref a22, .ref a23, .ref a24, .ref a25])), (a22, .inl (cI, 24, .inl xF19)), (a25, .inl (cZ, 24, .inl xF22)), (a26, .inl (cI, 24, .inl xF23))]) [0, 1, 2, 3, 4, 5] (by decide) rfl
        rw [hQ]
        exact W.vret hx hb hr (fun t ht hW => ⟨⟨(pickG 0 [], pickG (fun _ => 0) [g1_1], pickG (fun _ => 0) []), rfl, trivial, (by rw [ht]; exact hP9), hD9⟩, hS.F ht⟩) hS.2.2 dX0_takeHeights_30
      · rw [ki_le] at c48
        refine lv_aload_n hx hb dX0_takeHeights_10 rfl (lv_at hl 0 rfl) ?_
        refine va_get (D := (dC, dI)) (ci := 0) (v := .ref a1) (C := RX0) (T := TX0) (N := 7) hx hb hwd inlX0 hown hK hP 0 rfl rfl 0 (by decide) (hwd _ kr3_17) (fun _ h9 => h9) rfl dX0_takeHeights_11 ?_
        refine lv_iload_n hx hb dX0_takeHeights_14 rfl (lv_at hl 3 rfl) ?_
        refine lv_aload_n hx hb dX0_takeHeights_15 rfl (lv_at hl 1 rfl) ?_
        refine lv_iload_n hx hb dX0_takeHeights_16 rfl (lv_at hl 3 rfl) ?_
        refine lv_aload_n hx hb dX0_takeHeights_17 rfl (lv_at hl 2 rfl) ?_
        refine lv_iload_n hx hb dX0_takeHeights_18 rfl (lv_at hl 3 rfl) ?_
        have h49 : vp_in w3_1 24 := (vp_of (by omega) (by omega))
        refine va_iald hx hb hK hP 5 0 rfl rfl h49 dX0_takeHeights_19 ?_
        refine lv_topi (fun x50 ex50 => ?_)
        have hPc := hP.sub (ws' := [(a18, .inr (3, [.int i0, .ref a19, .ref a20, .ref a21, .ref a22, .ref a23, .ref a24, .ref a25])), (a22, .inl (cI, 24, .inl xF19)), (a25, .inl (cZ, 24, .inl xF22))]) [2, 3, 4] rfl
        have hDc := hD.sub (ws' := [(a18, .inr (3, [.int i0, .ref a19, .ref a20, .ref a21, .ref a22, .ref a23, .ref a24, .ref a25])), (a22, .inl (cI, 24, .inl xF19)), (a25, .inl (cZ, 24, .inl xF22))]) [2, 3, 4] (by decide) rfl
        have hFc := va_free (wc := [(a18, .inr (3, [.int i0, .ref a19, .ref a20, .ref a21, .ref a22, .ref a23, .ref a24, .ref a25])), (a22, .inl (cI, 24, .inl xF19)), (a25, .inl (cZ, 24, .inl xF22))]) hD hS hA [2, 3, 4] rfl
        refine va_calli (va_runV (As := [.int w3_1, .int x50]) (rest := [.int w3_1, .ref a1]) ⟨hx, hb, hml, hown, hwd⟩ (s_X3_heightOf l dC dI cI cZ cB cJ cM cG a18 a19 a20 a21 a22 a23 a24 a25 i0 xF19 xF22 w3_1 x50 H.size (show (0 : Int) ≤ i0.toInt ∧ i0.toInt ≤ 24 from ⟨by omega, by omega⟩) (show rng xF19 24 0 60 from p_1) (show rng xF22 24 0 1 from p_2) (show (0 : Int) ≤ w3_1.toInt ∧ w3_1.toInt ≤ 23 from ⟨by omega, by omega⟩)) (cwV 2 hwd (gV kr18_22 kr18_23 kr19_0 kr4_23 kr19_1) rfl rfl rfl (by decide +kernel) ⟨Nat.le_of_ble_eq_true rfl, Nat.le_of_ble_eq_true rfl⟩) (kPreV hPc hK hDc (ci := 3) (q0 := 0) rfl rfl) rfl rfl hl.1 rfl (lv_room (Nat.le_of_ble_eq_true rfl)) dX0_takeHeights_20 ⟨Nat.le_of_ble_eq_true rfl, Nat.le_of_ble_eq_true rfl⟩) hS (fun q _ h => hFc q h) hFc (fun r51 u52 t H1 locs ht9 hvm hw hB hz1 hk1 hS => ?_)
        obtain ⟨hw53, -⟩ := hw
        have hw53 : (0 : Int) ≤ r51.toInt ∧ r51.toInt ≤ 2147483647 := hw53
        obtain ⟨hP1, hD1⟩ := hB
        rw [ht9] at hP1
        obtain ⟨hP, hD⟩ := va_join (wr := [(a0, .inr (0, [.ref a1, .ref a2, .ref a3, .ref a4, .ref a5, .ref a6, .ref a7])), (a1, .inl (cI, 24, .inl g1_1)), (a26, .inl (cI, 24, .inl xF23))]) (w1 := [(a18, .inr (3, [.int i0, .ref a19, .ref a20, .ref a21, .ref a22, .ref a23, .ref a24, .ref a25])), (a22, .inl (cI, 24, .inl xF19)), (a25, .inl (cZ, 24, .inl xF22))]) hP hD [2, 3, 4] [0, 1, 5] rfl rfl (by decide) (by decide) hk1 hFc hP1 hD1
        generalize H1 = H at hP hS ⊢
        have hP : va_P (dC, dI) vwCl [(a0, .inr (0, [.ref a1, .ref a2, .ref a3, .ref a4, .ref a5, .ref a6, .ref a7])), (a1, .inl (cI, 24, .inl g1_1)), (a26, .inl (cI, 24, .inl xF23)), (a18, .inr (3, [.int i0, .ref a19, .ref a20, .ref a21, .ref a22, .ref a23, .ref a24, .ref a25])), (a22, .inl (cI, 24, .inl xF19)), (a25, .inl (cZ, 24, .inl xF22))] H := hP
        have hD : va_D A [(a0, .inr (0, [.ref a1, .ref a2, .ref a3, .ref a4, .ref a5, .ref a6, .ref a7])), (a1, .inl (cI, 24, .inl g1_1)), (a26, .inl (cI, 24, .inl xF23)), (a18, .inr (3, [.int i0, .ref a19, .ref a20, .ref a21, .ref a22, .ref a23, .ref a24, .ref a25])), (a22, .inl (cI, 24, .inl xF19)), (a25, .inl (cZ, 24, .inl xF22))] := hD
        refine va_iast hx hb hK hP hD hS 1 0 rfl rfl (vp_of (by omega) (by omega)) dX0_takeHeights_23 (fun H locs hP hD hS => ?_)
        obtain ⟨f54, ef54⟩ : ∃ f, f = upd g1_1 w3_1.toNatClampNeg r51 := ⟨_, rfl⟩
        have hP : va_P (dC, dI) vwCl [(a0, .inr (0, [.ref a1, .ref a2, .ref a3, .ref a4, .ref a5, .ref a6, .ref a7])), (a1, .inl (cI, 24, .inl f54)), (a26, .inl (cI, 24, .inl xF23)), (a18, .inr (3, [.int i0, .ref a19, .ref a20, .ref a21, .ref a22, .ref a23, .ref a24, .ref a25])), (a22, .inl (cI, 24, .inl xF19)), (a25, .inl (cZ, 24, .inl xF22))] H := by rw [ef54]; exact hP
        have hD : va_D A [(a0, .inr (0, [.ref a1, .ref a2, .ref a3, .ref a4, .ref a5, .ref a6, .ref a7])), (a1, .inl (cI, 24, .inl f54)), (a26, .inl (cI, 24, .inl xF23)), (a18, .inr (3, [.int i0, .ref a19, .ref a20, .ref a21, .ref a22, .ref a23, .ref a24, .ref a25])), (a22, .inl (cI, 24, .inl xF19)), (a25, .inl (cZ, 24, .inl xF22))] := by rw [ef54]; exact hD
        obtain ⟨x55, ex55⟩ : ∃ y : Int32, y = w3_1 + 1 := ⟨_, rfl⟩
        refine lv_iinc (v := x55) (lv' := [(3, .int x55), (0, .ref a0), (1, .ref a18), (2, .ref a26)]) hx hb dX0_takeHeights_24 hl (k := 3) rfl (by rw [ex55]; rfl) (by decide) rfl (fun ls hl => ?_)
        have tx55 := ia_add (a := w3_1) (b := (1 : Int32)) (by omega) (by omega)
        rw [← ex55] at tx55
        refine lv_goto (tgt := 2) hx hb dX0_takeHeights_27 (by decide) ?_
        exact ih1 _ _ ls x55 f54 (show (0 : Int) ≤ x55.toInt ∧ x55.toInt ≤ 24 from ⟨by omega, by omega⟩) (by omega) (hP.sub (ws' := [(a0, .inr (0, [.ref a1, .ref a2, .ref a3, .ref a4, .ref a5, .ref a6, .ref a7])), (a1, .inl (cI, 24, .inl f54)), (a18, .inr (3, [.int i0, .ref a19, .ref a20, .ref a21, .ref a22, .ref a23, .ref a24, .ref a25])), (a22, .inl (cI, 24, .inl xF19)), (a25, .inl (cZ, 24, .inl xF22)), (a26, .inl (cI, 24, .inl xF23))]) [0, 1, 3, 4, 5, 2] rfl) (hD.sub (ws' := [(a0, .inr (0, [.ref a1, .ref a2, .ref a3, .ref a4, .ref a5, .ref a6, .ref a7])), (a1, .inl (cI, 24, .inl f54)), (a18, .inr (3, [.int i0, .ref a19, .ref a20, .ref a21, .ref a22, .ref a23, .ref a24, .ref a25])), (a22, .inl (cI, 24, .inl xF19)), (a25, .inl (cZ, 24, .inl xF22)), (a26, .inl (cI, 24, .inl xF23))]) [0, 1, 3, 4, 5, 2] (by decide) rfl) hS (lv_sub hl [1, 2, 3, 0] rfl)
  exact lp1 _ _ _ ls (0) xF0 (show (0 : Int) ≤ (0 : Int32).toInt ∧ (0 : Int32).toInt ≤ 24 from ⟨by omega, by omega⟩) (Nat.lt_succ_self _) (hP.sub (ws' := [(a0, .inr (0, [.ref a1, .ref a2, .ref a3, .ref a4, .ref a5, .ref a6, .ref a7])), (a1, .inl (cI, 24, .inl xF0)), (a18, .inr (3, [.int i0, .ref a19, .ref a20, .ref a21, .ref a22, .ref a23, .ref a24, .ref a25])), (a22, .inl (cI, 24, .inl xF19)), (a25, .inl (cZ, 24, .inl xF22)), (a26, .inl (cI, 24, .inl xF23))]) [0, 1, 2, 3, 4, 5] rfl) (hD.sub (ws' := [(a0, .inr (0, [.ref a1, .ref a2, .ref a3, .ref a4, .ref a5, .ref a6, .ref a7])), (a1, .inl (cI, 24, .inl xF0)), (a18, .inr (3, [.int i0, .ref a19, .ref a20, .ref a21, .ref a22, .ref a23, .ref a24, .ref a25])), (a22, .inl (cI, 24, .inl xF19)), (a25, .inl (cZ, 24, .inl xF22)), (a26, .inl (cI, 24, .inl xF23))]) [0, 1, 2, 3, 4, 5] (by decide) rfl) hS (lv_sub hl [1, 2, 3, 0] rfl)
theorem dX0_takeToldHeights_0 : decode cX0_takeToldHeights 0 = .ok (.iconst 0, 1) := by decide +kernel
theorem dX0_takeToldHeights_1 : decode cX0_takeToldHeights 1 = .ok (.istore_n 2, 1) := by decide +kernel
theorem dX0_takeToldHeights_2 : decode cX0_takeToldHeights 2 = .ok (.iload_n 2, 1) := by decide +kernel
theorem dX0_takeToldHeights_3 : decode cX0_takeToldHeights 3 = .ok (.aload_n 1, 1) := by decide +kernel
theorem dX0_takeToldHeights_4 : decode cX0_takeToldHeights 4 = .ok (.getfield 35, 3) := by decide +kernel
theorem dX0_takeToldHeights_7 : decode cX0_takeToldHeights 7 = .ok (.if_icmp .ge 21, 3) := by decide +kernel
theorem dX0_takeToldHeights_10 : decode cX0_takeToldHeights 10 = .ok (.aload_n 0, 1) := by decide +kernel
theorem dX0_takeToldHeights_11 : decode cX0_takeToldHeights 11 = .ok (.getfield 9, 3) := by decide +kernel
theorem dX0_takeToldHeights_14 : decode cX0_takeToldHeights 14 = .ok (.iload_n 2, 1) := by decide +kernel
theorem dX0_takeToldHeights_15 : decode cX0_takeToldHeights 15 = .ok (.aload_n 1, 1) := by decide +kernel
theorem dX0_takeToldHeights_16 : decode cX0_takeToldHeights 16 = .ok (.getfield 45, 3) := by decide +kernel
theorem dX0_takeToldHeights_19 : decode cX0_takeToldHeights 19 = .ok (.iload_n 2, 1) := by decide +kernel
theorem dX0_takeToldHeights_20 : decode cX0_takeToldHeights 20 = .ok (.iaload, 1) := by decide +kernel
theorem dX0_takeToldHeights_21 : decode cX0_takeToldHeights 21 = .ok (.iastore, 1) := by decide +kernel
theorem dX0_takeToldHeights_22 : decode cX0_takeToldHeights 22 = .ok (.iinc 2 1, 3) := by decide +kernel
theorem dX0_takeToldHeights_25 : decode cX0_takeToldHeights 25 = .ok (.goto (-23), 3) := by decide +kernel
theorem dX0_takeToldHeights_28 : decode cX0_takeToldHeights 28 = .ok (.return_, 1) := by decide +kernel
set_option maxHeartbeats 4000000 in
set_option maxRecDepth 100000 in
theorem s_X0_takeToldHeights (l : Launch) (dC : Nat → ClassId) (dI : Nat → Nat → Nat) (cI cZ cB cJ cM cG : ClassId) (a0 a1 a2 a3 a4 a5 a6 a7 a18 a19 a20 a21 a22 a23 a24 a25 : Nat) (i0 : Int32) (xF0 xF19 : Nat → Int32) (sz : Nat) (p_0 : (0 : Int) ≤ i0.toInt ∧ i0.toInt ≤ 24) (p_1 : rng xF19 24 0 60) : Met l yX0_takeToldHeights (kw yX0_takeToldHeights cX0_takeToldHeights 3 none) ({ frames := 0, cells := 0, slots := 0, locals := 0 } : Room) (va_Pc [.ref a0, .ref a18] (kPre dC dI [(cI, .int), (cZ, .boolean), (cB, .byte), (cJ, .long), (cM, .object RX2), (cG, .array .int)] [(a0, .inr (0, [.ref a1, .ref a2, .ref a3, .ref a4, .ref a5, .ref a6, .ref a7])), (a1, .inl (cI, 24, .inl xF0)), (a18, .inr (3, [.int i0, .ref a19, .ref a20, .ref a21, .ref a22, .ref a23, .ref a24, .ref a25])), (a22, .inl (cI, 24, .inl xF19))] sz)) (va_Qv (fun (u9 : (Nat → Int32) × (Nat → Nat → Int32) × (Nat → Nat → Int64)) => True) (fun u9 t => va_P (dC, dI) vwCl [(a0, .inr (0, [.ref a1, .ref a2, .ref a3, .ref a4, .ref a5, .ref a6, .ref a7])), (a1, .inl (cI, 24, .inl (u9.2.1 0))), (a18, .inr (3, [.int i0, .ref a19, .ref a20, .ref a21, .ref a22, .ref a23, .ref a24, .ref a25])), (a22, .inl (cI, 24, .inl xF19))] t.heap ∧ va_D (va_A [(a0, .inr (0, [.ref a1, .ref a2, .ref a3, .ref a4, .ref a5, .ref a6, .ref a7])), (a1, .inl (cI, 24, .inl xF0)), (a18, .inr (3, [.int i0, .ref a19, .ref a20, .ref a21, .ref a22, .ref a23, .ref a24, .ref a25])), (a22, .inl (cI, 24, .inl xF19))] sz) [(a0, .inr (0, [.ref a1, .ref a2, .ref a3, .ref a4, .ref a5, .ref a6, .ref a7])), (a1, .inl (cI, 24, .inl (u9.2.1 0))), (a18, .inr (3, [.int i0, .ref a19, .ref a20, .ref a21, .ref a22, .ref a23, .ref a24, .ref a25])), (a22, .inl (cI, 24, .inl xF19))]) (va_A [(a0, .inr (0, [.ref a1, .ref a2, .ref a3, .ref a4, .ref a5, .ref a6, .ref a7])), (a1, .inl (cI, 24, .inl xF0)), (a18, .inr (3, [.int i0, .ref a19, .ref a20, .ref a21, .ref a22, .ref a23, .ref a24, .ref a25])), (a22, .inl (cI, 24, .inl xF19))] sz)) 0 0 (va_A [(a0, .inr (0, [.ref a1, .ref a2, .ref a3, .ref a4, .ref a5, .ref a6, .ref a7])), (a1, .inl (cI, 24, .inl xF0)), (a18, .inr (3, [.int i0, .ref a19, .ref a20, .ref a21, .ref a22, .ref a23, .ref a24, .ref a25])), (a22, .inl (cI, 24, .inl xF19))] sz) := by
  refine kEnter (by decide) (Nat.le_of_ble_eq_true rfl) ?_
  intro p e s m below meth c ls hx hb hr hml hown hlocks hin hwd hsz hP hK hD hl
  subst hsz
  generalize hAe : va_A [(a0, .inr (0, [.ref a1, .ref a2, .ref a3, .ref a4, .ref a5, .ref a6, .ref a7])), (a1, .inl (cI, 24, .inl xF0)), (a18, .inr (3, [.int i0, .ref a19, .ref a20, .ref a21, .ref a22, .ref a23, .ref a24, .ref a25])), (a22, .inl (cI, 24, .inl xF19))] s.heap.size = A at hD ⊢
  have hA : ∀ q : Nat, s.heap.size ≤ q → A q := fun q h => by rw [← hAe]; exact Or.inr h
  have hS : va_S A s.heap s.heap [] := va_S.rf
  have hl : lv_has ls 3 [(0, .ref a0), (1, .ref a18)] := hl
  obtain ⟨Q, hQ⟩ : ∃ Q, Q = MQ below (va_Qv (fun (u9 : (Nat → Int32) × (Nat → Nat → Int32) × (Nat → Nat → Int64)) => True) (fun u9 t => va_P (dC, dI) vwCl [(a0, .inr (0, [.ref a1, .ref a2, .ref a3, .ref a4, .ref a5, .ref a6, .ref a7])), (a1, .inl (cI, 24, .inl (u9.2.1 0))), (a18, .inr (3, [.int i0, .ref a19, .ref a20, .ref a21, .ref a22, .ref a23, .ref a24, .ref a25])), (a22, .inl (cI, 24, .inl xF19))] t.heap ∧ va_D A [(a0, .inr (0, [.ref a1, .ref a2, .ref a3, .ref a4, .ref a5, .ref a6, .ref a7])), (a1, .inl (cI, 24, .inl (u9.2.1 0))), (a18, .inr (3, [.int i0, .ref a19, .ref a20, .ref a21, .ref a22, .ref a23, .ref a24, .ref a25])), (a22, .inl (cI, 24, .inl xF19))]) A) ([.ref a0, .ref a18] : List Value).toArray s 0 0 A := ⟨_, rfl⟩
  rw [← hQ]
  have k0 : (0 : Int32).toInt = 0 := by decide
  have k1 : (1 : Int32).toInt = 1 := by decide
  refine lv_iconst (v := 0) hx hb dX0_takeToldHeights_0 (by decide) ?_
  refine lv_istore_n (lv' := [(2, .int 0), (0, .ref a0), (1, .ref a18)]) hx hb dX0_takeToldHeights_1 rfl hl (by decide) rfl (fun ls hl => ?_)
  have lp1 : ∀ (d : Nat), ∀ (H : Heap) (locs : List Loc) (ls : Array Slot) (w2_1 : Int32) (g1_1 : Nat → Int32), ((0 : Int) ≤ w2_1.toInt ∧ w2_1.toInt ≤ 24) → (24 - w2_1.toInt).toNat < d → va_P (dC, dI) vwCl [(a0, .inr (0, [.ref a1, .ref a2, .ref a3, .ref a4, .ref a5, .ref a6, .ref a7])), (a1, .inl (cI, 24, .inl g1_1)), (a18, .inr (3, [.int i0, .ref a19, .ref a20, .ref a21, .ref a22, .ref a23, .ref a24, .ref a25])), (a22, .inl (cI, 24, .inl xF19))] H → va_D A [(a0, .inr (0, [.ref a1, .ref a2, .ref a3, .ref a4, .ref a5, .ref a6, .ref a7])), (a1, .inl (cI, 24, .inl g1_1)), (a18, .inr (3, [.int i0, .ref a19, .ref a20, .ref a21, .ref a22, .ref a23, .ref a24, .ref a25])), (a22, .inl (cI, 24, .inl xF19))] → va_S A s.heap H locs → lv_has ls 3 [(0, .ref a0), (1, .ref a18), (2, .int w2_1)] → W p l e ({ frames := 0, cells := 0, slots := 0, locals := 0 } : Room) s m ([.ref a0, .ref a18] : List Value).toArray below meth c H locs 0 0 Q (F0 m 2 ls []) := by
    intro d
    induction d with
    | zero =>
      intro H locs ls w2_1 g1_1 hr_w2_1 hm hP hD hS hl
      omega
    | succ d ih1 =>
      intro H locs ls w2_1 g1_1 hr_w2_1 hm hP hD hS hl
      refine lv_iload_n hx hb dX0_takeToldHeights_2 rfl (lv_at hl 2 rfl) ?_
      refine lv_aload_n hx hb dX0_takeToldHeights_3 rfl (lv_at hl 1 rfl) ?_
      refine va_get (D := (dC, dI)) (ci := 3) (v := .int i0) (C := RX3) (T := TX3) (N := 8) hx hb hwd inlX3 hown hK hP 2 rfl rfl 0 (by decide) (hwd _ kr18_21) (fun _ h9 => h9) rfl dX0_takeToldHeights_4 ?_
      refine lv_icmp_ge (tgt := 28) hx hb dX0_takeToldHeights_7 (by decide) (fun c30 => ?_) (fun c30 => ?_)
      · rw [ki_le] at c30
        have hP9 := hP.sub (ws' := [(a0, .inr (0, [.ref a1, .ref a2, .ref a3, .ref a4, .ref a5, .ref a6, .ref a7])), (a1, .inl (cI, 24, .inl g1_1)), (a18, .inr (3, [.int i0, .ref a19, .ref a20, .ref a21, .ref a22, .ref a23, .ref a24, .ref a25])), (a22, .inl (cI, 24, .inl xF19))]) [0, 1, 2, 3] rfl
        have hD9 := hD.sub (ws' := [(a0, .inr (0, [.ref a1, .ref a2, .ref a3, .ref a4, .ref a5, .ref a6, .ref a7])), (a1, .inl (cI, 24, .inl g1_1)), (a18, .inr (3, [.int i0, .ref a19, .ref a20, .ref a21, .ref a22, .ref a23, .ref a24, .ref a25])), (a22, .inl (cI, 24, .inl xF19))]) [0, 1, 2, 3] (by decide) rfl
        rw [hQ]
        exact W.vret hx hb hr (fun t ht hW => ⟨⟨(pickG 0 [], pickG (fun _ => 0) [g1_1], pickG (fun _ => 0) []), rfl, trivial, (by rw [ht]; exact hP9), hD9⟩, hS.F ht⟩) hS.2.2 dX0_takeToldHeights_28
      · rw [ki_le] at c30
        refine lv_aload_n hx hb dX0_takeToldHeights_10 rfl (lv_at hl 0 rfl) ?_
        refine va_get (D := (dC, dI)) (ci := 0) (v := .ref a1) (C := RX0) (T := TX0) (N := 7) hx hb hwd inlX0 hown hK hP 0 rfl rfl 0 (by decide) (hwd _ kr3_17) (fun _ h9 => h9) rfl dX0_takeToldHeights_11 ?_
        refine lv_iload_n hx hb dX0_takeToldHeights_14 rfl (lv_at hl 2 rfl) ?_
        refine lv_aload_n hx hb dX0_takeToldHeights_15 rfl (lv_at hl 1 rfl) ?_
        refine va_get (D := (dC, dI)) (ci := 3) (v := .ref a22) (C := RX3) (T := TX3) (N := 8) hx hb hwd inlX3 hown hK hP 2 rfl rfl 4 (by decide) (hwd _ kr59_11) (fun _ h9 => h9) rfl dX0_takeToldHeights_16 ?_
        refine lv_iload_n hx hb dX0_takeToldHeights_19 rfl (lv_at hl 2 rfl) ?_
        have h31 : vp_in w2_1 24 := (vp_of (by omega) (by omega))
        refine va_iald hx hb hK hP 3 0 rfl rfl h31 dX0_takeToldHeights_20 ?_
        refine lv_topi (fun x32 ex32 => ?_)
        have tx32 : (0 : Int) ≤ x32.toInt ∧ x32.toInt ≤ 60 := by rw [ex32]; exact p_1 _ (vp_nat h31)
        refine va_iast hx hb hK hP hD hS 1 0 rfl rfl (vp_of (by omega) (by omega)) dX0_takeToldHeights_21 (fun H locs hP hD hS => ?_)
        obtain ⟨f33, ef33⟩ : ∃ f, f = upd g1_1 w2_1.toNatClampNeg x32 := ⟨_, rfl⟩
        have hP : va_P (dC, dI) vwCl [(a0, .inr (0, [.ref a1, .ref a2, .ref a3, .ref a4, .ref a5, .ref a6, .ref a7])), (a1, .inl (cI, 24, .inl f33)), (a18, .inr (3, [.int i0, .ref a19, .ref a20, .ref a21, .ref a22, .ref a23, .ref a24, .ref a25])), (a22, .inl (cI, 24, .inl xF19))] H := by rw [ef33]; exact hP
        have hD : va_D A [(a0, .inr (0, [.ref a1, .ref a2, .ref a3, .ref a4, .ref a5, .ref a6, .ref a7])), (a1, .inl (cI, 24, .inl f33)), (a18, .inr (3, [.int i0, .ref a19, .ref a20, .ref a21, .ref a22, .ref a23, .ref a24, .ref a25])), (a22, .inl (cI, 24, .inl xF19))] := by rw [ef33]; exact hD
        obtain ⟨x34, ex34⟩ : ∃ y : Int32, y = w2_1 + 1 := ⟨_, rfl⟩
        refine lv_iinc (v := x34) (lv' := [(2, .int x34), (0, .ref a0), (1, .ref a18)]) hx hb dX0_takeToldHeights_22 hl (k := 2) rfl (by rw [ex34]; rfl) (by decide) rfl (fun ls hl => ?_)
        have tx34 := ia_add (a := w2_1) (b := (1 : Int32)) (by omega) (by omega)
        rw [← ex34] at tx34
        refine lv_goto (tgt := 2) hx hb dX0_takeToldHeights_25 (by decide) ?_
        exact ih1 _ _ ls x34 f33 (show (0 : Int) ≤ x34.toInt ∧ x34.toInt ≤ 24 from ⟨by omega, by omega⟩) (by omega) (hP.sub (ws' := [(a0, .inr (0, [.ref a1, .ref a2, .ref a3, .ref a4, .ref a5, .ref a6, .ref a7])), (a1, .inl (cI, 24, .inl f33)), (a18, .inr (3, [.int i0, .ref a19, .ref a20, .ref a21, .ref a22, .ref a23, .ref a24, .ref a25])), (a22, .inl (cI, 24, .inl xF19))]) [0, 1, 2, 3] rfl) (hD.sub (ws' := [(a0, .inr (0, [.ref a1, .ref a2, .ref a3, .ref a4, .ref a5, .ref a6, .ref a7])), (a1, .inl (cI, 24, .inl f33)), (a18, .inr (3, [.int i0, .ref a19, .ref a20, .ref a21, .ref a22, .ref a23, .ref a24, .ref a25])), (a22, .inl (cI, 24, .inl xF19))]) [0, 1, 2, 3] (by decide) rfl) hS (lv_sub hl [1, 2, 0] rfl)
  exact lp1 _ _ _ ls (0) xF0 (show (0 : Int) ≤ (0 : Int32).toInt ∧ (0 : Int32).toInt ≤ 24 from ⟨by omega, by omega⟩) (Nat.lt_succ_self _) (hP.sub (ws' := [(a0, .inr (0, [.ref a1, .ref a2, .ref a3, .ref a4, .ref a5, .ref a6, .ref a7])), (a1, .inl (cI, 24, .inl xF0)), (a18, .inr (3, [.int i0, .ref a19, .ref a20, .ref a21, .ref a22, .ref a23, .ref a24, .ref a25])), (a22, .inl (cI, 24, .inl xF19))]) [0, 1, 2, 3] rfl) (hD.sub (ws' := [(a0, .inr (0, [.ref a1, .ref a2, .ref a3, .ref a4, .ref a5, .ref a6, .ref a7])), (a1, .inl (cI, 24, .inl xF0)), (a18, .inr (3, [.int i0, .ref a19, .ref a20, .ref a21, .ref a22, .ref a23, .ref a24, .ref a25])), (a22, .inl (cI, 24, .inl xF19))]) [0, 1, 2, 3] (by decide) rfl) hS (lv_sub hl [1, 2, 0] rfl)
theorem dX0_clearProfile_0 : decode cX0_clearProfile 0 = .ok (.iconst 0, 1) := by decide +kernel
theorem dX0_clearProfile_1 : decode cX0_clearProfile 1 = .ok (.istore_n 2, 1) := by decide +kernel
theorem dX0_clearProfile_2 : decode cX0_clearProfile 2 = .ok (.iload_n 2, 1) := by decide +kernel
theorem dX0_clearProfile_3 : decode cX0_clearProfile 3 = .ok (.aload_n 1, 1) := by decide +kernel
theorem dX0_clearProfile_4 : decode cX0_clearProfile 4 = .ok (.getfield 73, 3) := by decide +kernel
theorem dX0_clearProfile_7 : decode cX0_clearProfile 7 = .ok (.if_icmp .ge 16, 3) := by decide +kernel
theorem dX0_clearProfile_10 : decode cX0_clearProfile 10 = .ok (.aload_n 0, 1) := by decide +kernel
theorem dX0_clearProfile_11 : decode cX0_clearProfile 11 = .ok (.getfield 18, 3) := by decide +kernel
theorem dX0_clearProfile_14 : decode cX0_clearProfile 14 = .ok (.iload_n 2, 1) := by decide +kernel
theorem dX0_clearProfile_15 : decode cX0_clearProfile 15 = .ok (.iconst 0, 1) := by decide +kernel
theorem dX0_clearProfile_16 : decode cX0_clearProfile 16 = .ok (.iastore, 1) := by decide +kernel
theorem dX0_clearProfile_17 : decode cX0_clearProfile 17 = .ok (.iinc 2 1, 3) := by decide +kernel
theorem dX0_clearProfile_20 : decode cX0_clearProfile 20 = .ok (.goto (-18), 3) := by decide +kernel
theorem dX0_clearProfile_23 : decode cX0_clearProfile 23 = .ok (.return_, 1) := by decide +kernel
set_option maxHeartbeats 4000000 in
set_option maxRecDepth 100000 in
theorem s_X0_clearProfile (l : Launch) (dC : Nat → ClassId) (dI : Nat → Nat → Nat) (cI cZ cB cJ cM cG : ClassId) (a0 a1 a2 a3 a4 a5 a6 a7 a18 a19 a20 a21 a22 a23 : Nat) (i0 i1 i2 i3 i4 i5 i6 i7 i8 : Int32) (xF2 : Nat → Int32) (sz : Nat) (p_0 : (0 : Int) ≤ i0.toInt ∧ i0.toInt ≤ 60) (p_1 : (0 : Int) ≤ i3.toInt ∧ i3.toInt ≤ 6) (p_2 : (0 : Int) ≤ i5.toInt ∧ i5.toInt ≤ 1) (p_3 : (0 : Int) ≤ i8.toInt ∧ i8.toInt ≤ 1) : Met l yX0_clearProfile (kw yX0_clearProfile cX0_clearProfile 3 none) ({ frames := 0, cells := 0, slots := 0, locals := 0 } : Room) (va_Pc [.ref a0, .ref a18] (kPre dC dI [(cI, .int), (cZ, .boolean), (cB, .byte), (cJ, .long), (cM, .object RX2), (cG, .array .int)] [(a0, .inr (0, [.ref a1, .ref a2, .ref a3, .ref a4, .ref a5, .ref a6, .ref a7])), (a3, .inl (cI, 60, .inl xF2)), (a18, .inr (2, [.int i0, .int i1, .int i2, .int i3, .int i4, .int i5, .int i6, .int i7, .int i8, .ref a19, .ref a20, .ref a21, .ref a22, .ref a23]))] sz)) (va_Qv (fun (u9 : (Nat → Int32) × (Nat → Nat → Int32) × (Nat → Nat → Int64)) => True) (fun u9 t => va_P (dC, dI) vwCl [(a0, .inr (0, [.ref a1, .ref a2, .ref a3, .ref a4, .ref a5, .ref a6, .ref a7])), (a3, .inl (cI, 60, .inl (u9.2.1 0))), (a18, .inr (2, [.int i0, .int i1, .int i2, .int i3, .int i4, .int i5, .int i6, .int i7, .int i8, .ref a19, .ref a20, .ref a21, .ref a22, .ref a23]))] t.heap ∧ va_D (va_A [(a0, .inr (0, [.ref a1, .ref a2, .ref a3, .ref a4, .ref a5, .ref a6, .ref a7])), (a3, .inl (cI, 60, .inl xF2)), (a18, .inr (2, [.int i0, .int i1, .int i2, .int i3, .int i4, .int i5, .int i6, .int i7, .int i8, .ref a19, .ref a20, .ref a21, .ref a22, .ref a23]))] sz) [(a0, .inr (0, [.ref a1, .ref a2, .ref a3, .ref a4, .ref a5, .ref a6, .ref a7])), (a3, .inl (cI, 60, .inl (u9.2.1 0))), (a18, .inr (2, [.int i0, .int i1, .int i2, .int i3, .int i4, .int i5, .int i6, .int i7, .int i8, .ref a19, .ref a20, .ref a21, .ref a22, .ref a23]))]) (va_A [(a0, .inr (0, [.ref a1, .ref a2, .ref a3, .ref a4, .ref a5, .ref a6, .ref a7])), (a3, .inl (cI, 60, .inl xF2)), (a18, .inr (2, [.int i0, .int i1, .int i2, .int i3, .int i4, .int i5, .int i6, .int i7, .int i8, .ref a19, .ref a20, .ref a21, .ref a22, .ref a23]))] sz)) 0 0 (va_A [(a0, .inr (0, [.ref a1, .ref a2, .ref a3, .ref a4, .ref a5, .ref a6, .ref a7])), (a3, .inl (cI, 60, .inl xF2)), (a18, .inr (2, [.int i0, .int i1, .int i2, .int i3, .int i4, .int i5, .int i6, .int i7, .int i8, .ref a19, .ref a20, .ref a21, .ref a22, .ref a23]))] sz) := by
  refine kEnter (by decide) (Nat.le_of_ble_eq_true rfl) ?_
  intro p e s m below meth c ls hx hb hr hml hown hlocks hin hwd hsz hP hK hD hl
  subst hsz
  generalize hAe : va_A [(a0, .inr (0, [.ref a1, .ref a2, .ref a3, .ref a4, .ref a5, .ref a6, .ref a7])), (a3, .inl (cI, 60, .inl xF2)), (a18, .inr (2, [.int i0, .int i1, .int i2, .int i3, .int i4, .int i5, .int i6, .int i7, .int i8, .ref a19, .ref a20, .ref a21, .ref a22, .ref a23]))] s.heap.size = A at hD ⊢
  have hA : ∀ q : Nat, s.heap.size ≤ q → A q := fun q h => by rw [← hAe]; exact Or.inr h
  have hS : va_S A s.heap s.heap [] := va_S.rf
  have hl : lv_has ls 3 [(0, .ref a0), (1, .ref a18)] := hl
  obtain ⟨Q, hQ⟩ : ∃ Q, Q = MQ below (va_Qv (fun (u9 : (Nat → Int32) × (Nat → Nat → Int32) × (Nat → Nat → Int64)) => True) (fun u9 t => va_P (dC, dI) vwCl [(a0, .inr (0, [.ref a1, .ref a2, .ref a3, .ref a4, .ref a5, .ref a6, .ref a7])), (a3, .inl (cI, 60, .inl (u9.2.1 0))), (a18, .inr (2, [.int i0, .int i1, .int i2, .int i3, .int i4, .int i5, .int i6, .int i7, .int i8, .ref a19, .ref a20, .ref a21, .ref a22, .ref a23]))] t.heap ∧ va_D A [(a0, .inr (0, [.ref a1, .ref a2, .ref a3, .ref a4, .ref a5, .ref a6, .ref a7])), (a3, .inl (cI, 60, .inl (u9.2.1 0))), (a18, .inr (2, [.int i0, .int i1, .int i2, .int i3, .int i4, .int i5, .int i6, .int i7, .int i8, .ref a19, .ref a20, .ref a21, .ref a22, .ref a23]))]) A) ([.ref a0, .ref a18] : List Value).toArray s 0 0 A := ⟨_, rfl⟩
  rw [← hQ]
  have k0 : (0 : Int32).toInt = 0 := by decide
  have k1 : (1 : Int32).toInt = 1 := by decide
  refine lv_iconst (v := 0) hx hb dX0_clearProfile_0 (by decide) ?_
  refine lv_istore_n (lv' := [(2, .int 0), (0, .ref a0), (1, .ref a18)]) hx hb dX0_clearProfile_1 rfl hl (by decide) rfl (fun ls hl => ?_)
  have lp1 : ∀ (d : Nat), ∀ (H : Heap) (locs : List Loc) (ls : Array Slot) (w2_1 : Int32) (g1_1 : Nat → Int32), ((0 : Int) ≤ w2_1.toInt ∧ w2_1.toInt ≤ 60) → (60 - w2_1.toInt).toNat < d → va_P (dC, dI) vwCl [(a0, .inr (0, [.ref a1, .ref a2, .ref a3, .ref a4, .ref a5, .ref a6, .ref a7])), (a3, .inl (cI, 60, .inl g1_1)), (a18, .inr (2, [.int i0, .int i1, .int i2, .int i3, .int i4, .int i5, .int i6, .int i7, .int i8, .ref a19, .ref a20, .ref a21, .ref a22, .ref a23]))] H → va_D A [(a0, .inr (0, [.ref a1, .ref a2, .ref a3, .ref a4, .ref a5, .ref a6, .ref a7])), (a3, .inl (cI, 60, .inl g1_1)), (a18, .inr (2, [.int i0, .int i1, .int i2, .int i3, .int i4, .int i5, .int i6, .int i7, .int i8, .ref a19, .ref a20, .ref a21, .ref a22, .ref a23]))] → va_S A s.heap H locs → lv_has ls 3 [(0, .ref a0), (1, .ref a18), (2, .int w2_1)] → W p l e ({ frames := 0, cells := 0, slots := 0, locals := 0 } : Room) s m ([.ref a0, .ref a18] : List Value).toArray below meth c H locs 0 0 Q (F0 m 2 ls []) := by
    intro d
    induction d with
    | zero =>
      intro H locs ls w2_1 g1_1 hr_w2_1 hm hP hD hS hl
      omega
    | succ d ih1 =>
      intro H locs ls w2_1 g1_1 hr_w2_1 hm hP hD hS hl
      refine lv_iload_n hx hb dX0_clearProfile_2 rfl (lv_at hl 2 rfl) ?_
      refine lv_aload_n hx hb dX0_clearProfile_3 rfl (lv_at hl 1 rfl) ?_
      refine va_get (D := (dC, dI)) (ci := 2) (v := .int i0) (C := RX2) (T := TX2) (N := 14) hx hb hwd inlX2 hown hK hP 2 rfl rfl 0 (by decide) (hwd _ kr20_11) (fun _ h9 => h9) rfl dX0_clearProfile_4 ?_
      refine lv_icmp_ge (tgt := 23) hx hb dX0_clearProfile_7 (by decide) (fun c18 => ?_) (fun c18 => ?_)
      · rw [ki_le] at c18
        have hP9 := hP.sub (ws' := [(a0, .inr (0, [.ref a1, .ref a2, .ref a3, .ref a4, .ref a5, .ref a6, .ref a7])), (a3, .inl (cI, 60, .inl g1_1)), (a18, .inr (2, [.int i0, .int i1, .int i2, .int i3, .int i4, .int i5, .int i6, .int i7, .int i8, .ref a19, .ref a20, .ref a21, .ref a22, .ref a23]))]) [0, 1, 2] rfl
        have hD9 := hD.sub (ws' := [(a0, .inr (0, [.ref a1, .ref a2, .ref a3, .ref a4, .ref a5, .ref a6, .ref a7])), (a3, .inl (cI, 60, .inl g1_1)), (a18, .inr (2, [.int i0, .int i1, .int i2, .int i3, .int i4, .int i5, .int i6, .int i7, .int i8, .ref a19, .ref a20, .ref a21, .ref a22, .ref a23]))]) [0, 1, 2] (by decide) rfl
        rw [hQ]
        exact W.vret hx hb hr (fun t ht hW => ⟨⟨(pickG 0 [], pickG (fun _ => 0) [g1_1], pickG (fun _ => 0) []), rfl, trivial, (by rw [ht]; exact hP9), hD9⟩, hS.F ht⟩) hS.2.2 dX0_clearProfile_23
      · rw [ki_le] at c18
        refine lv_aload_n hx hb dX0_clearProfile_10 rfl (lv_at hl 0 rfl) ?_
        refine va_get (D := (dC, dI)) (ci := 0) (v := .ref a3) (C := RX0) (T := TX0) (N := 7) hx hb hwd inlX0 hown hK hP 0 rfl rfl 2 (by decide) (hwd _ kr3_19) (fun _ h9 => h9) rfl dX0_clearProfile_11 ?_
        refine lv_iload_n hx hb dX0_clearProfile_14 rfl (lv_at hl 2 rfl) ?_
        refine lv_iconst (v := 0) hx hb dX0_clearProfile_15 (by decide) ?_
        refine va_iast hx hb hK hP hD hS 1 0 rfl rfl (vp_of (by omega) (by omega)) dX0_clearProfile_16 (fun H locs hP hD hS => ?_)
        obtain ⟨f19, ef19⟩ : ∃ f, f = upd g1_1 w2_1.toNatClampNeg (0 : Int32) := ⟨_, rfl⟩
        have hP : va_P (dC, dI) vwCl [(a0, .inr (0, [.ref a1, .ref a2, .ref a3, .ref a4, .ref a5, .ref a6, .ref a7])), (a3, .inl (cI, 60, .inl f19)), (a18, .inr (2, [.int i0, .int i1, .int i2, .int i3, .int i4, .int i5, .int i6, .int i7, .int i8, .ref a19, .ref a20, .ref a21, .ref a22, .ref a23]))] H := by rw [ef19]; exact hP
        have hD : va_D A [(a0, .inr (0, [.ref a1, .ref a2, .ref a3, .ref a4, .ref a5, .ref a6, .ref a7])), (a3, .inl (cI, 60, .inl f19)), (a18, .inr (2, [.int i0, .int i1, .int i2, .int i3, .int i4, .int i5, .int i6, .int i7, .int i8, .ref a19, .ref a20, .ref a21, .ref a22, .ref a23]))] := by rw [ef19]; exact hD
        obtain ⟨x20, ex20⟩ : ∃ y : Int32, y = w2_1 + 1 := ⟨_, rfl⟩
        refine lv_iinc (v := x20) (lv' := [(2, .int x20), (0, .ref a0), (1, .ref a18)]) hx hb dX0_clearProfile_17 hl (k := 2) rfl (by rw [ex20]; rfl) (by decide) rfl (fun ls hl => ?_)
        have tx20 := ia_add (a := w2_1) (b := (1 : Int32)) (by omega) (by omega)
        rw [← ex20] at tx20
        refine lv_goto (tgt := 2) hx hb dX0_clearProfile_20 (by decide) ?_
        exact ih1 _ _ ls x20 f19 (show (0 : Int) ≤ x20.toInt ∧ x20.toInt ≤ 60 from ⟨by omega, by omega⟩) (by omega) (hP.sub (ws' := [(a0, .inr (0, [.ref a1, .ref a2, .ref a3, .ref a4, .ref a5, .ref a6, .ref a7])), (a3, .inl (cI, 60, .inl f19)), (a18, .inr (2, [.int i0, .int i1, .int i2, .int i3, .int i4, .int i5, .int i6, .int i7, .int i8, .ref a19, .ref a20, .ref a21, .ref a22, .ref a23]))]) [0, 1, 2] rfl) (hD.sub (ws' := [(a0, .inr (0, [.ref a1, .ref a2, .ref a3, .ref a4, .ref a5, .ref a6, .ref a7])), (a3, .inl (cI, 60, .inl f19)), (a18, .inr (2, [.int i0, .int i1, .int i2, .int i3, .int i4, .int i5, .int i6, .int i7, .int i8, .ref a19, .ref a20, .ref a21, .ref a22, .ref a23]))]) [0, 1, 2] (by decide) rfl) hS (lv_sub hl [1, 2, 0] rfl)
  exact lp1 _ _ _ ls (0) xF2 (show (0 : Int) ≤ (0 : Int32).toInt ∧ (0 : Int32).toInt ≤ 60 from ⟨by omega, by omega⟩) (Nat.lt_succ_self _) (hP.sub (ws' := [(a0, .inr (0, [.ref a1, .ref a2, .ref a3, .ref a4, .ref a5, .ref a6, .ref a7])), (a3, .inl (cI, 60, .inl xF2)), (a18, .inr (2, [.int i0, .int i1, .int i2, .int i3, .int i4, .int i5, .int i6, .int i7, .int i8, .ref a19, .ref a20, .ref a21, .ref a22, .ref a23]))]) [0, 1, 2] rfl) (hD.sub (ws' := [(a0, .inr (0, [.ref a1, .ref a2, .ref a3, .ref a4, .ref a5, .ref a6, .ref a7])), (a3, .inl (cI, 60, .inl xF2)), (a18, .inr (2, [.int i0, .int i1, .int i2, .int i3, .int i4, .int i5, .int i6, .int i7, .int i8, .ref a19, .ref a20, .ref a21, .ref a22, .ref a23]))]) [0, 1, 2] (by decide) rfl) hS (lv_sub hl [1, 2, 0] rfl)
theorem dX0_raiseProfile_0 : decode cX0_raiseProfile 0 = .ok (.aload_n 0, 1) := by decide +kernel
theorem dX0_raiseProfile_1 : decode cX0_raiseProfile 1 = .ok (.getfield 9, 3) := by decide +kernel
theorem dX0_raiseProfile_4 : decode cX0_raiseProfile 4 = .ok (.iload_n 2, 1) := by decide +kernel
theorem dX0_raiseProfile_5 : decode cX0_raiseProfile 5 = .ok (.iaload, 1) := by decide +kernel
theorem dX0_raiseProfile_6 : decode cX0_raiseProfile 6 = .ok (.istore_n 3, 1) := by decide +kernel
theorem dX0_raiseProfile_7 : decode cX0_raiseProfile 7 = .ok (.aload_n 1, 1) := by decide +kernel
theorem dX0_raiseProfile_8 : decode cX0_raiseProfile 8 = .ok (.getfield 48, 3) := by decide +kernel
theorem dX0_raiseProfile_11 : decode cX0_raiseProfile 11 = .ok (.getfield 76, 3) := by decide +kernel
theorem dX0_raiseProfile_14 : decode cX0_raiseProfile 14 = .ok (.iload_n 2, 1) := by decide +kernel
theorem dX0_raiseProfile_15 : decode cX0_raiseProfile 15 = .ok (.iaload, 1) := by decide +kernel
theorem dX0_raiseProfile_16 : decode cX0_raiseProfile 16 = .ok (.istore 4, 2) := by decide +kernel
theorem dX0_raiseProfile_18 : decode cX0_raiseProfile 18 = .ok (.aload_n 1, 1) := by decide +kernel
theorem dX0_raiseProfile_19 : decode cX0_raiseProfile 19 = .ok (.getfield 48, 3) := by decide +kernel
theorem dX0_raiseProfile_22 : decode cX0_raiseProfile 22 = .ok (.getfield 79, 3) := by decide +kernel
theorem dX0_raiseProfile_25 : decode cX0_raiseProfile 25 = .ok (.iload_n 2, 1) := by decide +kernel
theorem dX0_raiseProfile_26 : decode cX0_raiseProfile 26 = .ok (.iaload, 1) := by decide +kernel
theorem dX0_raiseProfile_27 : decode cX0_raiseProfile 27 = .ok (.iconst 1, 1) := by decide +kernel
theorem dX0_raiseProfile_28 : decode cX0_raiseProfile 28 = .ok (.isub, 1) := by decide +kernel
theorem dX0_raiseProfile_29 : decode cX0_raiseProfile 29 = .ok (.istore 5, 2) := by decide +kernel
theorem dX0_raiseProfile_31 : decode cX0_raiseProfile 31 = .ok (.aload_n 1, 1) := by decide +kernel
theorem dX0_raiseProfile_32 : decode cX0_raiseProfile 32 = .ok (.aload_n 1, 1) := by decide +kernel
theorem dX0_raiseProfile_33 : decode cX0_raiseProfile 33 = .ok (.getfield 48, 3) := by decide +kernel
theorem dX0_raiseProfile_36 : decode cX0_raiseProfile 36 = .ok (.getfield 82, 3) := by decide +kernel
theorem dX0_raiseProfile_39 : decode cX0_raiseProfile 39 = .ok (.iload_n 2, 1) := by decide +kernel
theorem dX0_raiseProfile_40 : decode cX0_raiseProfile 40 = .ok (.iaload, 1) := by decide +kernel
theorem dX0_raiseProfile_41 : decode cX0_raiseProfile 41 = .ok (.invokevirtual 85, 3) := by decide +kernel
theorem dX0_raiseProfile_44 : decode cX0_raiseProfile 44 = .ok (.ifCond .eq 15, 3) := by decide +kernel
theorem dX0_raiseProfile_47 : decode cX0_raiseProfile 47 = .ok (.aload_n 1, 1) := by decide +kernel
theorem dX0_raiseProfile_48 : decode cX0_raiseProfile 48 = .ok (.getfield 48, 3) := by decide +kernel
theorem dX0_raiseProfile_51 : decode cX0_raiseProfile 51 = .ok (.getfield 82, 3) := by decide +kernel
theorem dX0_raiseProfile_54 : decode cX0_raiseProfile 54 = .ok (.iload_n 2, 1) := by decide +kernel
theorem dX0_raiseProfile_55 : decode cX0_raiseProfile 55 = .ok (.iaload, 1) := by decide +kernel
theorem dX0_raiseProfile_56 : decode cX0_raiseProfile 56 = .ok (.goto 4, 3) := by decide +kernel
theorem dX0_raiseProfile_59 : decode cX0_raiseProfile 59 = .ok (.iconst 0, 1) := by decide +kernel
theorem dX0_raiseProfile_60 : decode cX0_raiseProfile 60 = .ok (.istore 6, 2) := by decide +kernel
theorem dX0_raiseProfile_62 : decode cX0_raiseProfile 62 = .ok (.iconst 0, 1) := by decide +kernel
theorem dX0_raiseProfile_63 : decode cX0_raiseProfile 63 = .ok (.istore 7, 2) := by decide +kernel
theorem dX0_raiseProfile_65 : decode cX0_raiseProfile 65 = .ok (.iload 7, 2) := by decide +kernel
theorem dX0_raiseProfile_67 : decode cX0_raiseProfile 67 = .ok (.aload_n 1, 1) := by decide +kernel
theorem dX0_raiseProfile_68 : decode cX0_raiseProfile 68 = .ok (.getfield 73, 3) := by decide +kernel
theorem dX0_raiseProfile_71 : decode cX0_raiseProfile 71 = .ok (.if_icmp .ge 101, 3) := by decide +kernel
theorem dX0_raiseProfile_74 : decode cX0_raiseProfile 74 = .ok (.iload 7, 2) := by decide +kernel
theorem dX0_raiseProfile_76 : decode cX0_raiseProfile 76 = .ok (.iload 5, 2) := by decide +kernel
theorem dX0_raiseProfile_78 : decode cX0_raiseProfile 78 = .ok (.isub, 1) := by decide +kernel
theorem dX0_raiseProfile_79 : decode cX0_raiseProfile 79 = .ok (.istore 8, 2) := by decide +kernel
theorem dX0_raiseProfile_81 : decode cX0_raiseProfile 81 = .ok (.aload_n 1, 1) := by decide +kernel
theorem dX0_raiseProfile_82 : decode cX0_raiseProfile 82 = .ok (.getfield 73, 3) := by decide +kernel
theorem dX0_raiseProfile_85 : decode cX0_raiseProfile 85 = .ok (.iload 7, 2) := by decide +kernel
theorem dX0_raiseProfile_87 : decode cX0_raiseProfile 87 = .ok (.isub, 1) := by decide +kernel
theorem dX0_raiseProfile_88 : decode cX0_raiseProfile 88 = .ok (.istore 9, 2) := by decide +kernel
theorem dX0_raiseProfile_90 : decode cX0_raiseProfile 90 = .ok (.iload 8, 2) := by decide +kernel
theorem dX0_raiseProfile_92 : decode cX0_raiseProfile 92 = .ok (.ifCond .gt 7, 3) := by decide +kernel
theorem dX0_raiseProfile_95 : decode cX0_raiseProfile 95 = .ok (.iconst 0, 1) := by decide +kernel
theorem dX0_raiseProfile_96 : decode cX0_raiseProfile 96 = .ok (.goto 17, 3) := by decide +kernel
theorem dX0_raiseProfile_99 : decode cX0_raiseProfile 99 = .ok (.iload 8, 2) := by decide +kernel
theorem dX0_raiseProfile_101 : decode cX0_raiseProfile 101 = .ok (.iload 9, 2) := by decide +kernel
theorem dX0_raiseProfile_103 : decode cX0_raiseProfile 103 = .ok (.if_icmp .ge 8, 3) := by decide +kernel
theorem dX0_raiseProfile_106 : decode cX0_raiseProfile 106 = .ok (.iload 8, 2) := by decide +kernel
theorem dX0_raiseProfile_108 : decode cX0_raiseProfile 108 = .ok (.goto 5, 3) := by decide +kernel
theorem dX0_raiseProfile_111 : decode cX0_raiseProfile 111 = .ok (.iload 9, 2) := by decide +kernel
theorem dX0_raiseProfile_113 : decode cX0_raiseProfile 113 = .ok (.istore 10, 2) := by decide +kernel
theorem dX0_raiseProfile_115 : decode cX0_raiseProfile 115 = .ok (.iload_n 3, 1) := by decide +kernel
theorem dX0_raiseProfile_116 : decode cX0_raiseProfile 116 = .ok (.iload 4, 2) := by decide +kernel
theorem dX0_raiseProfile_118 : decode cX0_raiseProfile 118 = .ok (.iload 10, 2) := by decide +kernel
theorem dX0_raiseProfile_120 : decode cX0_raiseProfile 120 = .ok (.imul, 1) := by decide +kernel
theorem dX0_raiseProfile_121 : decode cX0_raiseProfile 121 = .ok (.isub, 1) := by decide +kernel
theorem dX0_raiseProfile_122 : decode cX0_raiseProfile 122 = .ok (.istore 11, 2) := by decide +kernel
theorem dX0_raiseProfile_124 : decode cX0_raiseProfile 124 = .ok (.iload 11, 2) := by decide +kernel
theorem dX0_raiseProfile_126 : decode cX0_raiseProfile 126 = .ok (.aload_n 0, 1) := by decide +kernel
theorem dX0_raiseProfile_127 : decode cX0_raiseProfile 127 = .ok (.getfield 18, 3) := by decide +kernel
theorem dX0_raiseProfile_130 : decode cX0_raiseProfile 130 = .ok (.iload 6, 2) := by decide +kernel
theorem dX0_raiseProfile_132 : decode cX0_raiseProfile 132 = .ok (.iaload, 1) := by decide +kernel
theorem dX0_raiseProfile_133 : decode cX0_raiseProfile 133 = .ok (.if_icmp .le 12, 3) := by decide +kernel
theorem dX0_raiseProfile_136 : decode cX0_raiseProfile 136 = .ok (.aload_n 0, 1) := by decide +kernel
theorem dX0_raiseProfile_137 : decode cX0_raiseProfile 137 = .ok (.getfield 18, 3) := by decide +kernel
theorem dX0_raiseProfile_140 : decode cX0_raiseProfile 140 = .ok (.iload 6, 2) := by decide +kernel
theorem dX0_raiseProfile_142 : decode cX0_raiseProfile 142 = .ok (.iload 11, 2) := by decide +kernel
theorem dX0_raiseProfile_144 : decode cX0_raiseProfile 144 = .ok (.iastore, 1) := by decide +kernel
theorem dX0_raiseProfile_145 : decode cX0_raiseProfile 145 = .ok (.iload 6, 2) := by decide +kernel
theorem dX0_raiseProfile_147 : decode cX0_raiseProfile 147 = .ok (.iconst 1, 1) := by decide +kernel
theorem dX0_raiseProfile_148 : decode cX0_raiseProfile 148 = .ok (.iadd, 1) := by decide +kernel
theorem dX0_raiseProfile_149 : decode cX0_raiseProfile 149 = .ok (.aload_n 1, 1) := by decide +kernel
theorem dX0_raiseProfile_150 : decode cX0_raiseProfile 150 = .ok (.getfield 73, 3) := by decide +kernel
theorem dX0_raiseProfile_153 : decode cX0_raiseProfile 153 = .ok (.if_icmp .ge 10, 3) := by decide +kernel
theorem dX0_raiseProfile_156 : decode cX0_raiseProfile 156 = .ok (.iload 6, 2) := by decide +kernel
theorem dX0_raiseProfile_158 : decode cX0_raiseProfile 158 = .ok (.iconst 1, 1) := by decide +kernel
theorem dX0_raiseProfile_159 : decode cX0_raiseProfile 159 = .ok (.iadd, 1) := by decide +kernel
theorem dX0_raiseProfile_160 : decode cX0_raiseProfile 160 = .ok (.goto 4, 3) := by decide +kernel
theorem dX0_raiseProfile_163 : decode cX0_raiseProfile 163 = .ok (.iconst 0, 1) := by decide +kernel
theorem dX0_raiseProfile_164 : decode cX0_raiseProfile 164 = .ok (.istore 6, 2) := by decide +kernel
theorem dX0_raiseProfile_166 : decode cX0_raiseProfile 166 = .ok (.iinc 7 1, 3) := by decide +kernel
theorem dX0_raiseProfile_169 : decode cX0_raiseProfile 169 = .ok (.goto (-104), 3) := by decide +kernel
theorem dX0_raiseProfile_172 : decode cX0_raiseProfile 172 = .ok (.return_, 1) := by decide +kernel
set_option maxHeartbeats 4000000 in
set_option maxRecDepth 100000 in
theorem s_X0_raiseProfile (l : Launch) (dC : Nat → ClassId) (dI : Nat → Nat → Nat) (cI cZ cB cJ cM cG : ClassId) (a0 a1 a2 a3 a4 a5 a6 a7 a18 a19 a20 a21 a22 a23 a24 a25 a26 a27 a28 a29 a30 : Nat) (i0 i1 i2 i3 i4 i5 i6 i7 i8 i9 : Int32) (xF0 xF2 xF17 xF18 xF20 : Nat → Int32) (p1 : Int32) (sz : Nat) (p_0 : (0 : Int) ≤ i0.toInt ∧ i0.toInt ≤ 60) (p_1 : (0 : Int) ≤ i3.toInt ∧ i3.toInt ≤ 6) (p_2 : (0 : Int) ≤ i5.toInt ∧ i5.toInt ≤ 1) (p_3 : (0 : Int) ≤ i8.toInt ∧ i8.toInt ≤ 1) (p_4 : (0 : Int) ≤ i9.toInt ∧ i9.toInt ≤ 24) (p_5 : (0 : Int) ≤ p1.toInt ∧ p1.toInt ≤ 23) : Met l yX0_raiseProfile (kw yX0_raiseProfile cX0_raiseProfile 12 none) ({ frames := 1, cells := 0, slots := 0, locals := 21 } : Room) (va_Pc [.ref a0, .ref a18, .int p1] (kPre dC dI [(cI, .int), (cZ, .boolean), (cB, .byte), (cJ, .long), (cM, .object RX2), (cG, .array .int)] [(a0, .inr (0, [.ref a1, .ref a2, .ref a3, .ref a4, .ref a5, .ref a6, .ref a7])), (a1, .inl (cI, 24, .inl xF0)), (a3, .inl (cI, 60, .inl xF2)), (a18, .inr (2, [.int i0, .int i1, .int i2, .int i3, .int i4, .int i5, .int i6, .int i7, .int i8, .ref a19, .ref a20, .ref a21, .ref a22, .ref a23])), (a19, .inr (3, [.int i9, .ref a24, .ref a25, .ref a26, .ref a27, .ref a28, .ref a29, .ref a30])), (a25, .inl (cI, 24, .inl xF17)), (a26, .inl (cI, 24, .inl xF18)), (a28, .inl (cI, 24, .inl xF20))] sz)) (va_Qv (fun (u9 : (Nat → Int32) × (Nat → Nat → Int32) × (Nat → Nat → Int64)) => True) (fun u9 t => va_P (dC, dI) vwCl [(a0, .inr (0, [.ref a1, .ref a2, .ref a3, .ref a4, .ref a5, .ref a6, .ref a7])), (a1, .inl (cI, 24, .inl xF0)), (a3, .inl (cI, 60, .inl (u9.2.1 0))), (a18, .inr (2, [.int i0, .int i1, .int i2, .int i3, .int i4, .int i5, .int i6, .int i7, .int i8, .ref a19, .ref a20, .ref a21, .ref a22, .ref a23])), (a19, .inr (3, [.int i9, .ref a24, .ref a25, .ref a26, .ref a27, .ref a28, .ref a29, .ref a30])), (a25, .inl (cI, 24, .inl xF17)), (a26, .inl (cI, 24, .inl xF18)), (a28, .inl (cI, 24, .inl xF20))] t.heap ∧ va_D (va_A [(a0, .inr (0, [.ref a1, .ref a2, .ref a3, .ref a4, .ref a5, .ref a6, .ref a7])), (a1, .inl (cI, 24, .inl xF0)), (a3, .inl (cI, 60, .inl xF2)), (a18, .inr (2, [.int i0, .int i1, .int i2, .int i3, .int i4, .int i5, .int i6, .int i7, .int i8, .ref a19, .ref a20, .ref a21, .ref a22, .ref a23])), (a19, .inr (3, [.int i9, .ref a24, .ref a25, .ref a26, .ref a27, .ref a28, .ref a29, .ref a30])), (a25, .inl (cI, 24, .inl xF17)), (a26, .inl (cI, 24, .inl xF18)), (a28, .inl (cI, 24, .inl xF20))] sz) [(a0, .inr (0, [.ref a1, .ref a2, .ref a3, .ref a4, .ref a5, .ref a6, .ref a7])), (a1, .inl (cI, 24, .inl xF0)), (a3, .inl (cI, 60, .inl (u9.2.1 0))), (a18, .inr (2, [.int i0, .int i1, .int i2, .int i3, .int i4, .int i5, .int i6, .int i7, .int i8, .ref a19, .ref a20, .ref a21, .ref a22, .ref a23])), (a19, .inr (3, [.int i9, .ref a24, .ref a25, .ref a26, .ref a27, .ref a28, .ref a29, .ref a30])), (a25, .inl (cI, 24, .inl xF17)), (a26, .inl (cI, 24, .inl xF18)), (a28, .inl (cI, 24, .inl xF20))]) (va_A [(a0, .inr (0, [.ref a1, .ref a2, .ref a3, .ref a4, .ref a5, .ref a6, .ref a7])), (a1, .inl (cI, 24, .inl xF0)), (a3, .inl (cI, 60, .inl xF2)), (a18, .inr (2, [.int i0, .int i1, .int i2, .int i3, .int i4, .int i5, .int i6, .int i7, .int i8, .ref a19, .ref a20, .ref a21, .ref a22, .ref a23])), (a19, .inr (3, [.int i9, .ref a24, .ref a25, .ref a26, .ref a27, .ref a28, .ref a29, .ref a30])), (a25, .inl (cI, 24, .inl xF17)), (a26, .inl (cI, 24, .inl xF18)), (a28, .inl (cI, 24, .inl xF20))] sz)) 0 0 (va_A [(a0, .inr (0, [.ref a1, .ref a2, .ref a3, .ref a4, .ref a5, .ref a6, .ref a7])), (a1, .inl (cI, 24, .inl xF0)), (a3, .inl (cI, 60, .inl xF2)), (a18, .inr (2, [.int i0, .int i1, .int i2, .int i3, .int i4, .int i5, .int i6, .int i7, .int i8, .ref a19, .ref a20, .ref a21, .ref a22, .ref a23])), (a19, .inr (3, [.int i9, .ref a24, .ref a25, .ref a26, .ref a27, .ref a28, .ref a29, .ref a30])), (a25, .inl (cI, 24, .inl xF17)), (a26, .inl (cI, 24, .inl xF18)), (a28, .inl (cI, 24, .inl xF20))] sz) := by
  refine kEnter (by decide) (Nat.le_of_ble_eq_true rfl) ?_
  intro p e s m below meth c ls hx hb hr hml hown hlocks hin hwd hsz hP hK hD hl
  subst hsz
  generalize hAe : va_A [(a0, .inr (0, [.ref a1, .ref a2, .ref a3, .ref a4, .ref a5, .ref a6, .ref a7])), (a1, .inl (cI, 24, .inl xF0)), (a3, .inl (cI, 60, .inl xF2)), (a18, .inr (2, [.int i0, .int i1, .int i2, .int i3, .int i4, .int i5, .int i6, .int i7, .int i8, .ref a19, .ref a20, .ref a21, .ref a22, .ref a23])), (a19, .inr (3, [.int i9, .ref a24, .ref a25, .ref a26, .ref a27, .ref a28, .ref a29, .ref a30])), (a25, .inl (cI, 24, .inl xF17)), (a26, .inl (cI, 24, .inl xF18)), (a28, .inl (cI, 24, .inl xF20))] s.heap.size = A at hD ⊢
  have hA : ∀ q : Nat, s.heap.size ≤ q → A q := fun q h => by rw [← hAe]; exact Or.inr h
  have hS : va_S A s.heap s.heap [] := va_S.rf
  have hl : lv_has ls 12 [(0, .ref a0), (1, .ref a18), (2, .int p1)] := hl
  obtain ⟨Q, hQ⟩ : ∃ Q, Q = MQ below (va_Qv (fun (u9 : (Nat → Int32) × (Nat → Nat → Int32) × (Nat → Nat → Int64)) => True) (fun u9 t => va_P (dC, dI) vwCl [(a0, .inr (0, [.ref a1, .ref a2, .ref a3, .ref a4, .ref a5, .ref a6, .ref a7])), (a1, .inl (cI, 24, .inl xF0)), (a3, .inl (cI, 60, .inl (u9.2.1 0))), (a18, .inr (2, [.int i0, .int i1, .int i2, .int i3, .int i4, .int i5, .int i6, .int i7, .int i8, .ref a19, .ref a20, .ref a21, .ref a22, .ref a23])), (a19, .inr (3, [.int i9, .ref a24, .ref a25, .ref a26, .ref a27, .ref a28, .ref a29, .ref a30])), (a25, .inl (cI, 24, .inl xF17)), (a26, .inl (cI, 24, .inl xF18)), (a28, .inl (cI, 24, .inl xF20))] t.heap ∧ va_D A [(a0, .inr (0, [.ref a1, .ref a2, .ref a3, .ref a4, .ref a5, .ref a6, .ref a7])), (a1, .inl (cI, 24, .inl xF0)), (a3, .inl (cI, 60, .inl (u9.2.1 0))), (a18, .inr (2, [.int i0, .int i1, .int i2, .int i3, .int i4, .int i5, .int i6, .int i7, .int i8, .ref a19, .ref a20, .ref a21, .ref a22, .ref a23])), (a19, .inr (3, [.int i9, .ref a24, .ref a25, .ref a26, .ref a27, .ref a28, .ref a29, .ref a30])), (a25, .inl (cI, 24, .inl xF17)), (a26, .inl (cI, 24, .inl xF18)), (a28, .inl (cI, 24, .inl xF20))]) A) ([.ref a0, .ref a18, .int p1] : List Value).toArray s 0 0 A := ⟨_, rfl⟩
  rw [← hQ]
  have k0 : (0 : Int32).toInt = 0 := by decide
  have k1 : (1 : Int32).toInt = 1 := by decide
  refine lv_aload_n hx hb dX0_raiseProfile_0 rfl (lv_at hl 0 rfl) ?_
  refine va_get (D := (dC, dI)) (ci := 0) (v := .ref a1) (C := RX0) (T := TX0) (N := 7) hx hb hwd inlX0 hown hK hP 0 rfl rfl 0 (by decide) (hwd _ kr3_17) (fun _ h9 => h9) rfl dX0_raiseProfile_1 ?_
  refine lv_iload_n hx hb dX0_raiseProfile_4 rfl (lv_at hl 2 rfl) ?_
  have h1 : vp_in p1 24 := (vp_of (by omega) (by omega))
  refine va_iald hx hb hK hP 1 0 rfl rfl h1 dX0_raiseProfile_5 ?_
  refine lv_topi (fun x2 ex2 => ?_)
  refine lv_istore_n (lv' := [(3, .int x2), (0, .ref a0), (1, .ref a18), (2, .int p1)]) hx hb dX0_raiseProfile_6 rfl hl (by decide) rfl (fun ls hl => ?_)
  refine lv_aload_n hx hb dX0_raiseProfile_7 rfl (lv_at hl 2 rfl) ?_
  refine va_get (D := (dC, dI)) (ci := 2) (v := .ref a19) (C := RX2) (T := TX2) (N := 14) hx hb hwd inlX2 hown hK hP 3 rfl rfl 9 (by decide) (hwd _ kr18_9) (fun _ h9 => h9) rfl dX0_raiseProfile_8 ?_
  refine va_get (D := (dC, dI)) (ci := 3) (v := .ref a28) (C := RX3) (T := TX3) (N := 8) hx hb hwd inlX3 hown hK hP 4 rfl rfl 5 (by decide) (hwd _ kr20_16) (fun _ h9 => h9) rfl dX0_raiseProfile_11 ?_
  refine lv_iload_n hx hb dX0_raiseProfile_14 rfl (lv_at hl 3 rfl) ?_
  have h3 : vp_in p1 24 := (vp_of (by omega) (by omega))
  refine va_iald hx hb hK hP 7 0 rfl rfl h3 dX0_raiseProfile_15 ?_
  refine lv_topi (fun x4 ex4 => ?_)
  refine lv_istore (lv' := [(4, .int x4), (3, .int x2), (0, .ref a0), (1, .ref a18), (2, .int p1)]) hx hb dX0_raiseProfile_16 hl (by decide) rfl (fun ls hl => ?_)
  refine lv_aload_n hx hb dX0_raiseProfile_18 rfl (lv_at hl 3 rfl) ?_
  refine va_get (D := (dC, dI)) (ci := 2) (v := .ref a19) (C := RX2) (T := TX2) (N := 14) hx hb hwd inlX2 hown hK hP 3 rfl rfl 9 (by decide) (hwd _ kr18_9) (fun _ h9 => h9) rfl dX0_raiseProfile_19 ?_
  refine va_get (D := (dC, dI)) (ci := 3) (v := .ref a26) (C := RX3) (T := TX3) (N := 8) hx hb hwd inlX3 hown hK hP 4 rfl rfl 3 (by decide) (hwd _ kr20_17) (fun _ h9 => h9) rfl dX0_raiseProfile_22 ?_
  refine lv_iload_n hx hb dX0_raiseProfile_25 rfl (lv_at hl 4 rfl) ?_
  have h5 : vp_in p1 24 := (vp_of (by omega) (by omega))
  refine va_iald hx hb hK hP 6 0 rfl rfl h5 dX0_raiseProfile_26 ?_
  refine lv_topi (fun x6 ex6 => ?_)
  refine lv_iconst (v := 1) hx hb dX0_raiseProfile_27 (by decide) ?_
  refine lv_isub hx hb dX0_raiseProfile_28 ?_
  refine lv_topi (fun x7 ex7 => ?_)
  refine lv_istore (lv' := [(5, .int x7), (4, .int x4), (3, .int x2), (0, .ref a0), (1, .ref a18), (2, .int p1)]) hx hb dX0_raiseProfile_29 hl (by decide) rfl (fun ls hl => ?_)
  refine lv_aload_n hx hb dX0_raiseProfile_31 rfl (lv_at hl 4 rfl) ?_
  refine lv_aload_n hx hb dX0_raiseProfile_32 rfl (lv_at hl 4 rfl) ?_
  refine va_get (D := (dC, dI)) (ci := 2) (v := .ref a19) (C := RX2) (T := TX2) (N := 14) hx hb hwd inlX2 hown hK hP 3 rfl rfl 9 (by decide) (hwd _ kr18_9) (fun _ h9 => h9) rfl dX0_raiseProfile_33 ?_
  refine va_get (D := (dC, dI)) (ci := 3) (v := .ref a25) (C := RX3) (T := TX3) (N := 8) hx hb hwd inlX3 hown hK hP 4 rfl rfl 2 (by decide) (hwd _ kr20_18) (fun _ h9 => h9) rfl dX0_raiseProfile_36 ?_
  refine lv_iload_n hx hb dX0_raiseProfile_39 rfl (lv_at hl 5 rfl) ?_
  have h8 : vp_in p1 24 := (vp_of (by omega) (by omega))
  refine va_iald hx hb hK hP 5 0 rfl rfl h8 dX0_raiseProfile_40 ?_
  refine lv_topi (fun x9 ex9 => ?_)
  have hPc := hP.sub (ws' := [(a18, .inr (2, [.int i0, .int i1, .int i2, .int i3, .int i4, .int i5, .int i6, .int i7, .int i8, .ref a19, .ref a20, .ref a21, .ref a22, .ref a23]))]) [3] rfl
  have hDc := hD.sub (ws' := [(a18, .inr (2, [.int i0, .int i1, .int i2, .int i3, .int i4, .int i5, .int i6, .int i7, .int i8, .ref a19, .ref a20, .ref a21, .ref a22, .ref a23]))]) [3] (by decide) rfl
  have hFc := va_free (wc := [(a18, .inr (2, [.int i0, .int i1, .int i2, .int i3, .int i4, .int i5, .int i6, .int i7, .int i8, .ref a19, .ref a20, .ref a21, .ref a22, .ref a23]))]) hD hS hA [3] rfl
  refine va_calli (va_runV (As := [.int x9]) (rest := []) ⟨hx, hb, hml, hown, hwd⟩ (s_X2_hasStep l dC dI cI cZ cB cJ cM cG a18 a19 a20 a21 a22 a23 i0 i1 i2 i3 i4 i5 i6 i7 i8 x9 s.heap.size (show (0 : Int) ≤ i0.toInt ∧ i0.toInt ≤ 60 from ⟨by omega, by omega⟩) (show (0 : Int) ≤ i3.toInt ∧ i3.toInt ≤ 6 from ⟨by omega, by omega⟩) (show (0 : Int) ≤ i5.toInt ∧ i5.toInt ≤ 1 from ⟨by omega, by omega⟩) (show (0 : Int) ≤ i8.toInt ∧ i8.toInt ≤ 1 from ⟨by omega, by omega⟩)) (cwV 1 hwd (gV kr20_19 kr20_20 kr20_21 kr2_18 kr20_22) rfl rfl rfl (by decide +kernel) ⟨Nat.le_of_ble_eq_true rfl, Nat.le_of_ble_eq_true rfl⟩) (kPreV hPc hK hDc (ci := 2) (q0 := 0) rfl rfl) rfl rfl hl.1 rfl (lv_room (Nat.le_of_ble_eq_true rfl)) dX0_raiseProfile_41 ⟨Nat.le_of_ble_eq_true rfl, Nat.le_of_ble_eq_true rfl⟩) hS (fun q _ h => hFc q h) hFc (fun r10 u11 t H1 locs ht9 hvm hw hB hz1 hk1 hS => ?_)
  obtain ⟨hw12, hw13, -⟩ := hw
  have hw12 : (0 : Int) ≤ r10.toInt ∧ r10.toInt ≤ 1 := hw12
  obtain ⟨hP1, hD1⟩ := hB
  rw [ht9] at hP1
  obtain ⟨hP, hD⟩ := va_join (wr := [(a0, .inr (0, [.ref a1, .ref a2, .ref a3, .ref a4, .ref a5, .ref a6, .ref a7])), (a1, .inl (cI, 24, .inl xF0)), (a3, .inl (cI, 60, .inl xF2)), (a19, .inr (3, [.int i9, .ref a24, .ref a25, .ref a26, .ref a27, .ref a28, .ref a29, .ref a30])), (a25, .inl (cI, 24, .inl xF17)), (a26, .inl (cI, 24, .inl xF18)), (a28, .inl (cI, 24, .inl xF20))]) (w1 := [(a18, .inr (2, [.int i0, .int i1, .int i2, .int i3, .int i4, .int i5, .int i6, .int i7, .int i8, .ref a19, .ref a20, .ref a21, .ref a22, .ref a23]))]) hP hD [3] [0, 1, 2, 4, 5, 6, 7] rfl rfl (by decide) (by decide) hk1 hFc hP1 hD1
  generalize H1 = H at hP hS ⊢
  have hP : va_P (dC, dI) vwCl [(a0, .inr (0, [.ref a1, .ref a2, .ref a3, .ref a4, .ref a5, .ref a6, .ref a7])), (a1, .inl (cI, 24, .inl xF0)), (a3, .inl (cI, 60, .inl xF2)), (a19, .inr (3, [.int i9, .ref a24, .ref a25, .ref a26, .ref a27, .ref a28, .ref a29, .ref a30])), (a25, .inl (cI, 24, .inl xF17)), (a26, .inl (cI, 24, .inl xF18)), (a28, .inl (cI, 24, .inl xF20)), (a18, .inr (2, [.int i0, .int i1, .int i2, .int i3, .int i4, .int i5, .int i6, .int i7, .int i8, .ref a19, .ref a20, .ref a21, .ref a22, .ref a23]))] H := hP
  have hD : va_D A [(a0, .inr (0, [.ref a1, .ref a2, .ref a3, .ref a4, .ref a5, .ref a6, .ref a7])), (a1, .inl (cI, 24, .inl xF0)), (a3, .inl (cI, 60, .inl xF2)), (a19, .inr (3, [.int i9, .ref a24, .ref a25, .ref a26, .ref a27, .ref a28, .ref a29, .ref a30])), (a25, .inl (cI, 24, .inl xF17)), (a26, .inl (cI, 24, .inl xF18)), (a28, .inl (cI, 24, .inl xF20)), (a18, .inr (2, [.int i0, .int i1, .int i2, .int i3, .int i4, .int i5, .int i6, .int i7, .int i8, .ref a19, .ref a20, .ref a21, .ref a22, .ref a23]))] := hD
  refine lv_if_eq (tgt := 59) hx hb dX0_raiseProfile_44 (by decide) (fun c14 => ?_) (fun c14 => ?_)
  · rw [ki_eq] at c14
    refine lv_iconst (v := 0) hx hb dX0_raiseProfile_59 (by decide) ?_
    refine lv_istore (lv' := [(6, .int 0), (5, .int x7), (4, .int x4), (3, .int x2), (0, .ref a0), (1, .ref a18), (2, .int p1)]) hx hb dX0_raiseProfile_60 hl (by decide) rfl (fun ls hl => ?_)
    refine lv_iconst (v := 0) hx hb dX0_raiseProfile_62 (by decide) ?_
    refine lv_istore (lv' := [(7, .int 0), (6, .int 0), (5, .int x7), (4, .int x4), (3, .int x2), (0, .ref a0), (1, .ref a18), (2, .int p1)]) hx hb dX0_raiseProfile_63 hl (by decide) rfl (fun ls hl => ?_)
    have lp1 : ∀ (d : Nat), ∀ (H : Heap) (locs : List Loc) (ls : Array Slot) (w6_1 : Int32) (w7_1 : Int32) (g2_1 : Nat → Int32), ((0 : Int) ≤ w6_1.toInt ∧ w6_1.toInt ≤ 59) → ((0 : Int) ≤ w7_1.toInt ∧ w7_1.toInt ≤ 60) → (60 - w7_1.toInt).toNat < d → va_P (dC, dI) vwCl [(a0, .inr (0, [.ref a1, .ref a2, .ref a3, .ref a4, .ref a5, .ref a6, .ref a7])), (a1, .inl (cI, 24, .inl xF0)), (a3, .inl (cI, 60, .inl g2_1)), (a19, .inr (3, [.int i9, .ref a24, .ref a25, .ref a26, .ref a27, .ref a28, .ref a29, .ref a30])), (a25, .inl (cI, 24, .inl xF17)), (a26, .inl (cI, 24, .inl xF18)), (a28, .inl (cI, 24, .inl xF20)), (a18, .inr (2, [.int i0, .int i1, .int i2, .int i3, .int i4, .int i5, .int i6, .int i7, .int i8, .ref a19, .ref a20, .ref a21, .ref a22, .ref a23]))] H → va_D A [(a0, .inr (0, [.ref a1, .ref a2, .ref a3, .ref a4, .ref a5, .ref a6, .ref a7])), (a1, .inl (cI, 24, .inl xF0)), (a3, .inl (cI, 60, .inl g2_1)), (a19, .inr (3, [.int i9, .ref a24, .ref a25, .ref a26, .ref a27, .ref a28, .ref a29, .ref a30])), (a25, .inl (cI, 24, .inl xF17)), (a26, .inl (cI, 24, .inl xF18)), (a28, .inl (cI, 24, .inl xF20)), (a18, .inr (2, [.int i0, .int i1, .int i2, .int i3, .int i4, .int i5, .int i6, .int i7, .int i8, .ref a19, .ref a20, .ref a21, .ref a22, .ref a23]))] → va_S A s.heap H locs → lv_has ls 12 [(0, .ref a0), (1, .ref a18), (2, .int p1), (3, .int x2), (4, .int x4), (5, .int x7), (6, .int w6_1), (7, .int w7_1)] → W p l e ({ frames := 1, cells := 0, slots := 0, locals := 21 } : Room) s m ([.ref a0, .ref a18, .int p1] : List Value).toArray below meth c H locs 0 0 Q (F0 m 65 ls []) := by
      intro d
      induction d with
      | zero =>
        intro H locs ls w6_1 w7_1 g2_1 hr_w6_1 hr_w7_1 hm hP hD hS hl
        omega
      | succ d ih1 =>
        intro H locs ls w6_1 w7_1 g2_1 hr_w6_1 hr_w7_1 hm hP hD hS hl
        refine lv_iload hx hb dX0_raiseProfile_65 (lv_at hl 7 rfl) ?_
        refine lv_aload_n hx hb dX0_raiseProfile_67 rfl (lv_at hl 1 rfl) ?_
        refine va_get (D := (dC, dI)) (ci := 2) (v := .int i0) (C := RX2) (T := TX2) (N := 14) hx hb hwd inlX2 hown hK hP 7 rfl rfl 0 (by decide) (hwd _ kr20_11) (fun _ h9 => h9) rfl dX0_raiseProfile_68 ?_
        refine lv_icmp_ge (tgt := 172) hx hb dX0_raiseProfile_71 (by decide) (fun c107 => ?_) (fun c107 => ?_)
        · rw [ki_le] at c107
          have hP9 := hP.sub (ws' := [(a0, .inr (0, [.ref a1, .ref a2, .ref a3, .ref a4, .ref a5, .ref a6, .ref a7])), (a1, .inl (cI, 24, .inl xF0)), (a3, .inl (cI, 60, .inl g2_1)), (a18, .inr (2, [.int i0, .int i1, .int i2, .int i3, .int i4, .int i5, .int i6, .int i7, .int i8, .ref a19, .ref a20, .ref a21, .ref a22, .ref a23])), (a19, .inr (3, [.int i9, .ref a24, .ref a25, .ref a26, .ref a27, .ref a28, .ref a29, .ref a30])), (a25, .inl (cI, 24, .inl xF17)), (a26, .inl (cI, 24, .inl xF18)), (a28, .inl (cI, 24, .inl xF20))]) [0, 1, 2, 7, 3, 4, 5, 6] rfl
          have hD9 := hD.sub (ws' := [(a0, .inr (0, [.ref a1, .ref a2, .ref a3, .ref a4, .ref a5, .ref a6, .ref a7])), (a1, .inl (cI, 24, .inl xF0)), (a3, .inl (cI, 60, .inl g2_1)), (a18, .inr (2, [.int i0, .int i1, .int i2, .int i3, .int i4, .int i5, .int i6, .int i7, .int i8, .ref a19, .ref a20, .ref a21, .ref a22, .ref a23])), (a19, .inr (3, [.int i9, .ref a24, .ref a25, .ref a26, .ref a27, .ref a28, .ref a29, .ref a30])), (a25, .inl (cI, 24, .inl xF17)), (a26, .inl (cI, 24, .inl xF18)), (a28, .inl (cI, 24, .inl xF20))]) [0, 1, 2, 7, 3, 4, 5, 6] (by decide) rfl
          rw [hQ]
          exact W.vret hx hb hr (fun t ht hW => ⟨⟨(pickG 0 [], pickG (fun _ => 0) [g2_1], pickG (fun _ => 0) []), rfl, trivial, (by rw [ht]; exact hP9), hD9⟩, hS.F ht⟩) hS.2.2 dX0_raiseProfile_172
        · rw [ki_le] at c107
          refine lv_iload hx hb dX0_raiseProfile_74 (lv_at hl 7 rfl) ?_
          refine lv_iload hx hb dX0_raiseProfile_76 (lv_at hl 5 rfl) ?_
          refine lv_isub hx hb dX0_raiseProfile_78 ?_
          refine lv_topi (fun x108 ex108 => ?_)
          refine lv_istore (lv' := [(8, .int x108), (0, .ref a0), (1, .ref a18), (2, .int p1), (3, .int x2), (4, .int x4), (5, .int x7), (6, .int w6_1), (7, .int w7_1)]) hx hb dX0_raiseProfile_79 hl (by decide) rfl (fun ls hl => ?_)
          refine lv_aload_n hx hb dX0_raiseProfile_81 rfl (lv_at hl 2 rfl) ?_
          refine va_get (D := (dC, dI)) (ci := 2) (v := .int i0) (C := RX2) (T := TX2) (N := 14) hx hb hwd inlX2 hown hK hP 7 rfl rfl 0 (by decide) (hwd _ kr20_11) (fun _ h9 => h9) rfl dX0_raiseProfile_82 ?_
          refine lv_iload hx hb dX0_raiseProfile_85 (lv_at hl 8 rfl) ?_
          refine lv_isub hx hb dX0_raiseProfile_87 ?_
          refine lv_topi (fun x109 ex109 => ?_)
          have tx109 := ia_sub (a := i0) (b := w7_1) (by omega) (by omega)
          rw [← ex109] at tx109
          refine lv_istore (lv' := [(9, .int x109), (8, .int x108), (0, .ref a0), (1, .ref a18), (2, .int p1), (3, .int x2), (4, .int x4), (5, .int x7), (6, .int w6_1), (7, .int w7_1)]) hx hb dX0_raiseProfile_88 hl (by decide) rfl (fun ls hl => ?_)
          refine lv_iload hx hb dX0_raiseProfile_90 (lv_at hl 1 rfl) ?_
          have jp14 : ∀ (H : Heap) (locs : List Loc) (ls : Array Slot) (z0_14 : Int32), ((-58 : Int) ≤ z0_14.toInt ∧ z0_14.toInt ≤ 60) → va_P (dC, dI) vwCl [(a0, .inr (0, [.ref a1, .ref a2, .ref a3, .ref a4, .ref a5, .ref a6, .ref a7])), (a1, .inl (cI, 24, .inl xF0)), (a3, .inl (cI, 60, .inl g2_1)), (a19, .inr (3, [.int i9, .ref a24, .ref a25, .ref a26, .ref a27, .ref a28, .ref a29, .ref a30])), (a25, .inl (cI, 24, .inl xF17)), (a26, .inl (cI, 24, .inl xF18)), (a28, .inl (cI, 24, .inl xF20)), (a18, .inr (2, [.int i0, .int i1, .int i2, .int i3, .int i4, .int i5, .int i6, .int i7, .int i8, .ref a19, .ref a20, .ref a21, .ref a22, .ref a23]))] H → va_D A [(a0, .inr (0, [.ref a1, .ref a2, .ref a3, .ref a4, .ref a5, .ref a6, .ref a7])), (a1, .inl (cI, 24, .inl xF0)), (a3, .inl (cI, 60, .inl g2_1)), (a19, .inr (3, [.int i9, .ref a24, .ref a25, .ref a26, .ref a27, .ref a28, .ref a29, .ref a30])), (a25, .inl (cI, 24, .inl xF17)), (a26, .inl (cI, 24, .inl xF18)), (a28, .inl (cI, 24, .inl xF20)), (a18, .inr (2, [.int i0, .int i1, .int i2, .int i3, .int i4, .int i5, .int i6, .int i7, .int i8, .ref a19, .ref a20, .ref a21, .ref a22, .ref a23]))] → va_S A s.heap H locs → lv_has ls 12 [(0, .ref a0), (1, .ref a18), (2, .int p1), (3, .int x2), (4, .int x4), (5, .int x7), (6, .int w6_1), (7, .int w7_1), (8, .int x108), (9, .int x109)] → W p l e ({ frames := 1, cells := 0, slots := 0, locals := 21 } : Room) s m ([.ref a0, .ref a18, .int p1] : List Value).toArray below meth c H locs 0 0 Q (F0 m 113 ls [.int z0_14]) := by
            intro H locs ls z0_14 hr_z0_14 hP hD hS hl
            refine lv_istore (lv' := [(10, .int z0_14), (0, .ref a0), (1, .ref a18), (2, .int p1), (3, .int x2), (4, .int x4), (5, .int x7), (6, .int w6_1), (7, .int w7_1), (8, .int x108), (9, .int x109)]) hx hb dX0_raiseProfile_113 hl (by decide) rfl (fun ls hl => ?_)
            refine lv_iload_n hx hb dX0_raiseProfile_115 rfl (lv_at hl 4 rfl) ?_
            refine lv_iload hx hb dX0_raiseProfile_116 (lv_at hl 5 rfl) ?_
            refine lv_iload hx hb dX0_raiseProfile_118 (lv_at hl 0 rfl) ?_
            refine lv_imul hx hb dX0_raiseProfile_120 ?_
            refine lv_topi (fun x123 ex123 => ?_)
            refine lv_isub hx hb dX0_raiseProfile_121 ?_
            refine lv_topi (fun x124 ex124 => ?_)
            refine lv_istore (lv' := [(11, .int x124), (10, .int z0_14), (0, .ref a0), (1, .ref a18), (2, .int p1), (3, .int x2), (4, .int x4), (5, .int x7), (6, .int w6_1), (7, .int w7_1), (8, .int x108), (9, .int x109)]) hx hb dX0_raiseProfile_122 hl (by decide) rfl (fun ls hl => ?_)
            refine lv_iload hx hb dX0_raiseProfile_124 (lv_at hl 0 rfl) ?_
            refine lv_aload_n hx hb dX0_raiseProfile_126 rfl (lv_at hl 2 rfl) ?_
            refine va_get (D := (dC, dI)) (ci := 0) (v := .ref a3) (C := RX0) (T := TX0) (N := 7) hx hb hwd inlX0 hown hK hP 0 rfl rfl 2 (by decide) (hwd _ kr3_19) (fun _ h9 => h9) rfl dX0_raiseProfile_127 ?_
            refine lv_iload hx hb dX0_raiseProfile_130 (lv_at hl 8 rfl) ?_
            have h125 : vp_in w6_1 60 := (vp_of (by omega) (by omega))
            refine va_iald hx hb hK hP 2 0 rfl rfl h125 dX0_raiseProfile_132 ?_
            refine lv_topi (fun x126 ex126 => ?_)
            have jp16 : ∀ (H : Heap) (locs : List Loc) (ls : Array Slot) (g0_16 : Nat → Int32), va_P (dC, dI) vwCl [(a0, .inr (0, [.ref a1, .ref a2, .ref a3, .ref a4, .ref a5, .ref a6, .ref a7])), (a1, .inl (cI, 24, .inl xF0)), (a3, .inl (cI, 60, .inl g0_16)), (a19, .inr (3, [.int i9, .ref a24, .ref a25, .ref a26, .ref a27, .ref a28, .ref a29, .ref a30])), (a25, .inl (cI, 24, .inl xF17)), (a26, .inl (cI, 24, .inl xF18)), (a28, .inl (cI, 24, .inl xF20)), (a18, .inr (2, [.int i0, .int i1, .int i2, .int i3, .int i4, .int i5, .int i6, .int i7, .int i8, .ref a19, .ref a20, .ref a21, .ref a22, .ref a23]))] H → va_D A [(a0, .inr (0, [.ref a1, .ref a2, .ref a3, .ref a4, .ref a5, .ref a6, .ref a7])), (a1, .inl (cI, 24, .inl xF0)), (a3, .inl (cI, 60, .inl g0_16)), (a19, .inr (3, [.int i9, .ref a24, .ref a25, .ref a26, .ref a27, .ref a28, .ref a29, .ref a30])), (a25, .inl (cI, 24, .inl xF17)), (a26, .inl (cI, 24, .inl xF18)), (a28, .inl (cI, 24, .inl xF20)), (a18, .inr (2, [.int i0, .int i1, .int i2, .int i3, .int i4, .int i5, .int i6, .int i7, .int i8, .ref a19, .ref a20, .ref a21, .ref a22, .ref a23]))] → va_S A s.heap H locs → lv_has ls 12 [(0, .ref a0), (1, .ref a18), (2, .int p1), (3, .int x2), (4, .int x4), (5, .int x7), (6, .int w6_1), (7, .int w7_1), (8, .int x108), (9, .int x109), (10, .int z0_14), (11, .int x124)] → W p l e ({ frames := 1, cells := 0, slots := 0, locals := 21 } : Room) s m ([.ref a0, .ref a18, .int p1] : List Value).toArray below meth c H locs 0 0 Q (F0 m 145 ls []) := by
              intro H locs ls g0_16 hP hD hS hl
              refine lv_iload hx hb dX0_raiseProfile_145 (lv_at hl 6 rfl) ?_
              refine lv_iconst (v := 1) hx hb dX0_raiseProfile_147 (by decide) ?_
              refine lv_iadd hx hb dX0_raiseProfile_148 ?_
              refine lv_topi (fun x134 ex134 => ?_)
              have tx134 := ia_add (a := w6_1) (b := (1 : Int32)) (by omega) (by omega)
              rw [← ex134] at tx134
              refine lv_aload_n hx hb dX0_raiseProfile_149 rfl (lv_at hl 1 rfl) ?_
              refine va_get (D := (dC, dI)) (ci := 2) (v := .int i0) (C := RX2) (T := TX2) (N := 14) hx hb hwd inlX2 hown hK hP 7 rfl rfl 0 (by decide) (hwd _ kr20_11) (fun _ h9 => h9) rfl dX0_raiseProfile_150 ?_
              refine lv_icmp_ge (tgt := 163) hx hb dX0_raiseProfile_153 (by decide) (fun c135 => ?_) (fun c135 => ?_)
              · rw [ki_le] at c135
                refine lv_iconst (v := 0) hx hb dX0_raiseProfile_163 (by decide) ?_
                refine lv_istore (lv' := [(6, .int 0), (0, .ref a0), (1, .ref a18), (2, .int p1), (3, .int x2), (4, .int x4), (5, .int x7), (7, .int w7_1), (8, .int x108), (9, .int x109), (10, .int z0_14), (11, .int x124)]) hx hb dX0_raiseProfile_164 hl (by decide) rfl (fun ls hl => ?_)
                obtain ⟨x136, ex136⟩ : ∃ y : Int32, y = w7_1 + 1 := ⟨_, rfl⟩
                refine lv_iinc (v := x136) (lv' := [(7, .int x136), (6, .int 0), (0, .ref a0), (1, .ref a18), (2, .int p1), (3, .int x2), (4, .int x4), (5, .int x7), (8, .int x108), (9, .int x109), (10, .int z0_14), (11, .int x124)]) hx hb dX0_raiseProfile_166 hl (k := 7) rfl (by rw [ex136]; rfl) (by decide) rfl (fun ls hl => ?_)
                have tx136 := ia_add (a := w7_1) (b := (1 : Int32)) (by omega) (by omega)
                rw [← ex136] at tx136
                refine lv_goto (tgt := 65) hx hb dX0_raiseProfile_169 (by decide) ?_
                exact ih1 _ _ ls (0) x136 g0_16 (show (0 : Int) ≤ (0 : Int32).toInt ∧ (0 : Int32).toInt ≤ 59 from ⟨by omega, by omega⟩) (show (0 : Int) ≤ x136.toInt ∧ x136.toInt ≤ 60 from ⟨by omega, by omega⟩) (by omega) (hP.sub (ws' := [(a0, .inr (0, [.ref a1, .ref a2, .ref a3, .ref a4, .ref a5, .ref a6, .ref a7])), (a1, .inl (cI, 24, .inl xF0)), (a3, .inl (cI, 60, .inl g0_16)), (a19, .inr (3, [.int i9, .ref a24, .ref a25, .ref a26, .ref a27, .ref a28, .ref a29, .ref a30])), (a25, .inl (cI, 24, .inl xF17)), (a26, .inl (cI, 24, .inl xF18)), (a28, .inl (cI, 24, .inl xF20)), (a18, .inr (2, [.int i0, .int i1, .int i2, .int i3, .int i4, .int i5, .int i6, .int i7, .int i8, .ref a19, .ref a20, .ref a21, .ref a22, .ref a23]))]) [0, 1, 2, 3, 4, 5, 6, 7] rfl) (hD.sub (ws' := [(a0, .inr (0, [.ref a1, .ref a2, .ref a3, .ref a4, .ref a5, .ref a6, .ref a7])), (a1, .inl (cI, 24, .inl xF0)), (a3, .inl (cI, 60, .inl g0_16)), (a19, .inr (3, [.int i9, .ref a24, .ref a25, .ref a26, .ref a27, .ref a28, .ref a29, .ref a30])), (a25, .inl (cI, 24, .inl xF17)), (a26, .inl (cI, 24, .inl xF18)), (a28, .inl (cI, 24, .inl xF20)), (a18, .inr (2, [.int i0, .int i1, .int i2, .int i3, .int i4, .int i5, .int i6, .int i7, .int i8, .ref a19, .ref a20, .ref a21, .ref a22, .ref a23]))]) [0, 1, 2, 3, 4, 5, 6, 7] (by decide) rfl) hS (lv_sub hl [2, 3, 4, 5, 6, 7, 1, 0] rfl)
              · rw [ki_le] at c135
                refine lv_iload hx hb dX0_raiseProfile_156 (lv_at hl 6 rfl) ?_
                refine lv_iconst (v := 1) hx hb dX0_raiseProfile_158 (by decide) ?_
                refine lv_iadd hx hb dX0_raiseProfile_159 ?_
                refine lv_topi (fun x137 ex137 => ?_)
                have tx137 := ia_add (a := w6_1) (b := (1 : Int32)) (by omega) (by omega)
                rw [← ex137] at tx137
                refine lv_goto (tgt := 164) hx hb dX0_raiseProfile_160 (by decide) ?_
                refine lv_istore (lv' := [(6, .int x137), (0, .ref a0), (1, .ref a18), (2, .int p1), (3, .int x2), (4, .int x4), (5, .int x7), (7, .int w7_1), (8, .int x108), (9, .int x109), (10, .int z0_14), (11, .int x124)]) hx hb dX0_raiseProfile_164 hl (by decide) rfl (fun ls hl => ?_)
                obtain ⟨x138, ex138⟩ : ∃ y : Int32, y = w7_1 + 1 := ⟨_, rfl⟩
                refine lv_iinc (v := x138) (lv' := [(7, .int x138), (6, .int x137), (0, .ref a0), (1, .ref a18), (2, .int p1), (3, .int x2), (4, .int x4), (5, .int x7), (8, .int x108), (9, .int x109), (10, .int z0_14), (11, .int x124)]) hx hb dX0_raiseProfile_166 hl (k := 7) rfl (by rw [ex138]; rfl) (by decide) rfl (fun ls hl => ?_)
                have tx138 := ia_add (a := w7_1) (b := (1 : Int32)) (by omega) (by omega)
                rw [← ex138] at tx138
                refine lv_goto (tgt := 65) hx hb dX0_raiseProfile_169 (by decide) ?_
                exact ih1 _ _ ls x137 x138 g0_16 (show (0 : Int) ≤ x137.toInt ∧ x137.toInt ≤ 59 from ⟨by omega, by omega⟩) (show (0 : Int) ≤ x138.toInt ∧ x138.toInt ≤ 60 from ⟨by omega, by omega⟩) (by omega) (hP.sub (ws' := [(a0, .inr (0, [.ref a1, .ref a2, .ref a3, .ref a4, .ref a5, .ref a6, .ref a7])), (a1, .inl (cI, 24, .inl xF0)), (a3, .inl (cI, 60, .inl g0_16)), (a19, .inr (3, [.int i9, .ref a24, .ref a25, .ref a26, .ref a27, .ref a28, .ref a29, .ref a30])), (a25, .inl (cI, 24, .inl xF17)), (a26, .inl (cI, 24, .inl xF18)), (a28, .inl (cI, 24, .inl xF20)), (a18, .inr (2, [.int i0, .int i1, .int i2, .int i3, .int i4, .int i5, .int i6, .int i7, .int i8, .ref a19, .ref a20, .ref a21, .ref a22, .ref a23]))]) [0, 1, 2, 3, 4, 5, 6, 7] rfl) (hD.sub (ws' := [(a0, .inr (0, [.ref a1, .ref a2, .ref a3, .ref a4, .ref a5, .ref a6, .ref a7])), (a1, .inl (cI, 24, .inl xF0)), (a3, .inl (cI, 60, .inl g0_16)), (a19, .inr (3, [.int i9, .ref a24, .ref a25, .ref a26, .ref a27, .ref a28, .ref a29, .ref a30])), (a25, .inl (cI, 24, .inl xF17)), (a26, .inl (cI, 24, .inl xF18)), (a28, .inl (cI, 24, .inl xF20)), (a18, .inr (2, [.int i0, .int i1, .int i2, .int i3, .int i4, .int i5, .int i6, .int i7, .int i8, .ref a19, .ref a20, .ref a21, .ref a22, .ref a23]))]) [0, 1, 2, 3, 4, 5, 6, 7] (by decide) rfl) hS (lv_sub hl [2, 3, 4, 5, 6, 7, 1, 0] rfl)
            refine lv_icmp_le (tgt := 145) hx hb dX0_raiseProfile_133 (by decide) (fun c139 => ?_) (fun c139 => ?_)
            · rw [ki_le] at c139
              exact jp16 _ _ ls g2_1 (hP.sub (ws' := [(a0, .inr (0, [.ref a1, .ref a2, .ref a3, .ref a4, .ref a5, .ref a6, .ref a7])), (a1, .inl (cI, 24, .inl xF0)), (a3, .inl (cI, 60, .inl g2_1)), (a19, .inr (3, [.int i9, .ref a24, .ref a25, .ref a26, .ref a27, .ref a28, .ref a29, .ref a30])), (a25, .inl (cI, 24, .inl xF17)), (a26, .inl (cI, 24, .inl xF18)), (a28, .inl (cI, 24, .inl xF20)), (a18, .inr (2, [.int i0, .int i1, .int i2, .int i3, .int i4, .int i5, .int i6, .int i7, .int i8, .ref a19, .ref a20, .ref a21, .ref a22, .ref a23]))]) [0, 1, 2, 3, 4, 5, 6, 7] rfl) (hD.sub (ws' := [(a0, .inr (0, [.ref a1, .ref a2, .ref a3, .ref a4, .ref a5, .ref a6, .ref a7])), (a1, .inl (cI, 24, .inl xF0)), (a3, .inl (cI, 60, .inl g2_1)), (a19, .inr (3, [.int i9, .ref a24, .ref a25, .ref a26, .ref a27, .ref a28, .ref a29, .ref a30])), (a25, .inl (cI, 24, .inl xF17)), (a26, .inl (cI, 24, .inl xF18)), (a28, .inl (cI, 24, .inl xF20)), (a18, .inr (2, [.int i0, .int i1, .int i2, .int i3, .int i4, .int i5, .int i6, .int i7, .int i8, .ref a19, .ref a20, .ref a21, .ref a22, .ref a23]))]) [0, 1, 2, 3, 4, 5, 6, 7] (by decide) rfl) hS (lv_sub hl [2, 3, 4, 5, 6, 7, 8, 9, 10, 11, 1, 0] rfl)
            · rw [ki_le] at c139
              refine lv_aload_n hx hb dX0_raiseProfile_136 rfl (lv_at hl 2 rfl) ?_
              refine va_get (D := (dC, dI)) (ci := 0) (v := .ref a3) (C := RX0) (T := TX0) (N := 7) hx hb hwd inlX0 hown hK hP 0 rfl rfl 2 (by decide) (hwd _ kr3_19) (fun _ h9 => h9) rfl dX0_raiseProfile_137 ?_
              refine lv_iload hx hb dX0_raiseProfile_140 (lv_at hl 8 rfl) ?_
              refine lv_iload hx hb dX0_raiseProfile_142 (lv_at hl 0 rfl) ?_
              refine va_iast hx hb hK hP hD hS 2 0 rfl rfl (vp_of (by omega) (by omega)) dX0_raiseProfile_144 (fun H locs hP hD hS => ?_)
              obtain ⟨f140, ef140⟩ : ∃ f, f = upd g2_1 w6_1.toNatClampNeg x124 := ⟨_, rfl⟩
              have hP : va_P (dC, dI) vwCl [(a0, .inr (0, [.ref a1, .ref a2, .ref a3, .ref a4, .ref a5, .ref a6, .ref a7])), (a1, .inl (cI, 24, .inl xF0)), (a3, .inl (cI, 60, .inl f140)), (a19, .inr (3, [.int i9, .ref a24, .ref a25, .ref a26, .ref a27, .ref a28, .ref a29, .ref a30])), (a25, .inl (cI, 24, .inl xF17)), (a26, .inl (cI, 24, .inl xF18)), (a28, .inl (cI, 24, .inl xF20)), (a18, .inr (2, [.int i0, .int i1, .int i2, .int i3, .int i4, .int i5, .int i6, .int i7, .int i8, .ref a19, .ref a20, .ref a21, .ref a22, .ref a23]))] H := by rw [ef140]; exact hP
              have hD : va_D A [(a0, .inr (0, [.ref a1, .ref a2, .ref a3, .ref a4, .ref a5, .ref a6, .ref a7])), (a1, .inl (cI, 24, .inl xF0)), (a3, .inl (cI, 60, .inl f140)), (a19, .inr (3, [.int i9, .ref a24, .ref a25, .ref a26, .ref a27, .ref a28, .ref a29, .ref a30])), (a25, .inl (cI, 24, .inl xF17)), (a26, .inl (cI, 24, .inl xF18)), (a28, .inl (cI, 24, .inl xF20)), (a18, .inr (2, [.int i0, .int i1, .int i2, .int i3, .int i4, .int i5, .int i6, .int i7, .int i8, .ref a19, .ref a20, .ref a21, .ref a22, .ref a23]))] := by rw [ef140]; exact hD
              exact jp16 _ _ ls f140 (hP.sub (ws' := [(a0, .inr (0, [.ref a1, .ref a2, .ref a3, .ref a4, .ref a5, .ref a6, .ref a7])), (a1, .inl (cI, 24, .inl xF0)), (a3, .inl (cI, 60, .inl f140)), (a19, .inr (3, [.int i9, .ref a24, .ref a25, .ref a26, .ref a27, .ref a28, .ref a29, .ref a30])), (a25, .inl (cI, 24, .inl xF17)), (a26, .inl (cI, 24, .inl xF18)), (a28, .inl (cI, 24, .inl xF20)), (a18, .inr (2, [.int i0, .int i1, .int i2, .int i3, .int i4, .int i5, .int i6, .int i7, .int i8, .ref a19, .ref a20, .ref a21, .ref a22, .ref a23]))]) [0, 1, 2, 3, 4, 5, 6, 7] rfl) (hD.sub (ws' := [(a0, .inr (0, [.ref a1, .ref a2, .ref a3, .ref a4, .ref a5, .ref a6, .ref a7])), (a1, .inl (cI, 24, .inl xF0)), (a3, .inl (cI, 60, .inl f140)), (a19, .inr (3, [.int i9, .ref a24, .ref a25, .ref a26, .ref a27, .ref a28, .ref a29, .ref a30])), (a25, .inl (cI, 24, .inl xF17)), (a26, .inl (cI, 24, .inl xF18)), (a28, .inl (cI, 24, .inl xF20)), (a18, .inr (2, [.int i0, .int i1, .int i2, .int i3, .int i4, .int i5, .int i6, .int i7, .int i8, .ref a19, .ref a20, .ref a21, .ref a22, .ref a23]))]) [0, 1, 2, 3, 4, 5, 6, 7] (by decide) rfl) hS (lv_sub hl [2, 3, 4, 5, 6, 7, 8, 9, 10, 11, 1, 0] rfl)
          refine lv_if_gt (tgt := 99) hx hb dX0_raiseProfile_92 (by decide) (fun c141 => ?_) (fun c141 => ?_)
          · rw [ki_lt] at c141
            refine lv_iload hx hb dX0_raiseProfile_99 (lv_at hl 1 rfl) ?_
            refine lv_iload hx hb dX0_raiseProfile_101 (lv_at hl 0 rfl) ?_
            refine lv_icmp_ge (tgt := 111) hx hb dX0_raiseProfile_103 (by decide) (fun c142 => ?_) (fun c142 => ?_)
            · rw [ki_le] at c142
              refine lv_iload hx hb dX0_raiseProfile_111 (lv_at hl 0 rfl) ?_
              exact jp14 _ _ ls x109 (show (-58 : Int) ≤ x109.toInt ∧ x109.toInt ≤ 60 from ⟨by omega, by omega⟩) (hP.sub (ws' := [(a0, .inr (0, [.ref a1, .ref a2, .ref a3, .ref a4, .ref a5, .ref a6, .ref a7])), (a1, .inl (cI, 24, .inl xF0)), (a3, .inl (cI, 60, .inl g2_1)), (a19, .inr (3, [.int i9, .ref a24, .ref a25, .ref a26, .ref a27, .ref a28, .ref a29, .ref a30])), (a25, .inl (cI, 24, .inl xF17)), (a26, .inl (cI, 24, .inl xF18)), (a28, .inl (cI, 24, .inl xF20)), (a18, .inr (2, [.int i0, .int i1, .int i2, .int i3, .int i4, .int i5, .int i6, .int i7, .int i8, .ref a19, .ref a20, .ref a21, .ref a22, .ref a23]))]) [0, 1, 2, 3, 4, 5, 6, 7] rfl) (hD.sub (ws' := [(a0, .inr (0, [.ref a1, .ref a2, .ref a3, .ref a4, .ref a5, .ref a6, .ref a7])), (a1, .inl (cI, 24, .inl xF0)), (a3, .inl (cI, 60, .inl g2_1)), (a19, .inr (3, [.int i9, .ref a24, .ref a25, .ref a26, .ref a27, .ref a28, .ref a29, .ref a30])), (a25, .inl (cI, 24, .inl xF17)), (a26, .inl (cI, 24, .inl xF18)), (a28, .inl (cI, 24, .inl xF20)), (a18, .inr (2, [.int i0, .int i1, .int i2, .int i3, .int i4, .int i5, .int i6, .int i7, .int i8, .ref a19, .ref a20, .ref a21, .ref a22, .ref a23]))]) [0, 1, 2, 3, 4, 5, 6, 7] (by decide) rfl) hS (lv_sub hl [2, 3, 4, 5, 6, 7, 8, 9, 1, 0] rfl)
            · rw [ki_le] at c142
              refine lv_iload hx hb dX0_raiseProfile_106 (lv_at hl 1 rfl) ?_
              refine lv_goto (tgt := 113) hx hb dX0_raiseProfile_108 (by decide) ?_
              exact jp14 _ _ ls x108 (show (-58 : Int) ≤ x108.toInt ∧ x108.toInt ≤ 60 from ⟨by omega, by omega⟩) (hP.sub (ws' := [(a0, .inr (0, [.ref a1, .ref a2, .ref a3, .ref a4, .ref a5, .ref a6, .ref a7])), (a1, .inl (cI, 24, .inl xF0)), (a3, .inl (cI, 60, .inl g2_1)), (a19, .inr (3, [.int i9, .ref a24, .ref a25, .ref a26, .ref a27, .ref a28, .ref a29, .ref a30])), (a25, .inl (cI, 24, .inl xF17)), (a26, .inl (cI, 24, .inl xF18)), (a28, .inl (cI, 24, .inl xF20)), (a18, .inr (2, [.int i0, .int i1, .int i2, .int i3, .int i4, .int i5, .int i6, .int i7, .int i8, .ref a19, .ref a20, .ref a21, .ref a22, .ref a23]))]) [0, 1, 2, 3, 4, 5, 6, 7] rfl) (hD.sub (ws' := [(a0, .inr (0, [.ref a1, .ref a2, .ref a3, .ref a4, .ref a5, .ref a6, .ref a7])), (a1, .inl (cI, 24, .inl xF0)), (a3, .inl (cI, 60, .inl g2_1)), (a19, .inr (3, [.int i9, .ref a24, .ref a25, .ref a26, .ref a27, .ref a28, .ref a29, .ref a30])), (a25, .inl (cI, 24, .inl xF17)), (a26, .inl (cI, 24, .inl xF18)), (a28, .inl (cI, 24, .inl xF20)), (a18, .inr (2, [.int i0, .int i1, .int i2, .int i3, .int i4, .int i5, .int i6, .int i7, .int i8, .ref a19, .ref a20, .ref a21, .ref a22, .ref a23]))]) [0, 1, 2, 3, 4, 5, 6, 7] (by decide) rfl) hS (lv_sub hl [2, 3, 4, 5, 6, 7, 8, 9, 1, 0] rfl)
          · rw [ki_lt] at c141
            refine lv_iconst (v := 0) hx hb dX0_raiseProfile_95 (by decide) ?_
            refine lv_goto (tgt := 113) hx hb dX0_raiseProfile_96 (by decide) ?_
            exact jp14 _ _ ls (0) (show (-58 : Int) ≤ (0 : Int32).toInt ∧ (0 : Int32).toInt ≤ 60 from ⟨by omega, by omega⟩) (hP.sub (ws' := [(a0, .inr (0, [.ref a1, .ref a2, .ref a3, .ref a4, .ref a5, .ref a6, .ref a7])), (a1, .inl (cI, 24, .inl xF0)), (a3, .inl (cI, 60, .inl g2_1)), (a19, .inr (3, [.int i9, .ref a24, .ref a25, .ref a26, .ref a27, .ref a28, .ref a29, .ref a30])), (a25, .inl (cI, 24, .inl xF17)), (a26, .inl (cI, 24, .inl xF18)), (a28, .inl (cI, 24, .inl xF20)), (a18, .inr (2, [.int i0, .int i1, .int i2, .int i3, .int i4, .int i5, .int i6, .int i7, .int i8, .ref a19, .ref a20, .ref a21, .ref a22, .ref a23]))]) [0, 1, 2, 3, 4, 5, 6, 7] rfl) (hD.sub (ws' := [(a0, .inr (0, [.ref a1, .ref a2, .ref a3, .ref a4, .ref a5, .ref a6, .ref a7])), (a1, .inl (cI, 24, .inl xF0)), (a3, .inl (cI, 60, .inl g2_1)), (a19, .inr (3, [.int i9, .ref a24, .ref a25, .ref a26, .ref a27, .ref a28, .ref a29, .ref a30])), (a25, .inl (cI, 24, .inl xF17)), (a26, .inl (cI, 24, .inl xF18)), (a28, .inl (cI, 24, .inl xF20)), (a18, .inr (2, [.int i0, .int i1, .int i2, .int i3, .int i4, .int i5, .int i6, .int i7, .int i8, .ref a19, .ref a20, .ref a21, .ref a22, .ref a23]))]) [0, 1, 2, 3, 4, 5, 6, 7] (by decide) rfl) hS (lv_sub hl [2, 3, 4, 5, 6, 7, 8, 9, 1, 0] rfl)
    exact lp1 _ _ _ ls (0) (0) xF2 (show (0 : Int) ≤ (0 : Int32).toInt ∧ (0 : Int32).toInt ≤ 59 from ⟨by omega, by omega⟩) (show (0 : Int) ≤ (0 : Int32).toInt ∧ (0 : Int32).toInt ≤ 60 from ⟨by omega, by omega⟩) (Nat.lt_succ_self _) (hP.sub (ws' := [(a0, .inr (0, [.ref a1, .ref a2, .ref a3, .ref a4, .ref a5, .ref a6, .ref a7])), (a1, .inl (cI, 24, .inl xF0)), (a3, .inl (cI, 60, .inl xF2)), (a19, .inr (3, [.int i9, .ref a24, .ref a25, .ref a26, .ref a27, .ref a28, .ref a29, .ref a30])), (a25, .inl (cI, 24, .inl xF17)), (a26, .inl (cI, 24, .inl xF18)), (a28, .inl (cI, 24, .inl xF20)), (a18, .inr (2, [.int i0, .int i1, .int i2, .int i3, .int i4, .int i5, .int i6, .int i7, .int i8, .ref a19, .ref a20, .ref a21, .ref a22, .ref a23]))]) [0, 1, 2, 3, 4, 5, 6, 7] rfl) (hD.sub (ws' := [(a0, .inr (0, [.ref a1, .ref a2, .ref a3, .ref a4, .ref a5, .ref a6, .ref a7])), (a1, .inl (cI, 24, .inl xF0)), (a3, .inl (cI, 60, .inl xF2)), (a19, .inr (3, [.int i9, .ref a24, .ref a25, .ref a26, .ref a27, .ref a28, .ref a29, .ref a30])), (a25, .inl (cI, 24, .inl xF17)), (a26, .inl (cI, 24, .inl xF18)), (a28, .inl (cI, 24, .inl xF20)), (a18, .inr (2, [.int i0, .int i1, .int i2, .int i3, .int i4, .int i5, .int i6, .int i7, .int i8, .ref a19, .ref a20, .ref a21, .ref a22, .ref a23]))]) [0, 1, 2, 3, 4, 5, 6, 7] (by decide) rfl) hS (lv_sub hl [5, 6, 7, 4, 3, 2, 1, 0] rfl)
  · rw [ki_eq] at c14
    have hw13q := hw13 (by omega)
    clear hw13
    refine lv_aload_n hx hb dX0_raiseProfile_47 rfl (lv_at hl 4 rfl) ?_
    refine va_get (D := (dC, dI)) (ci := 2) (v := .ref a19) (C := RX2) (T := TX2) (N := 14) hx hb hwd inlX2 hown hK hP 7 rfl rfl 9 (by decide) (hwd _ kr18_9) (fun _ h9 => h9) rfl dX0_raiseProfile_48 ?_
    refine va_get (D := (dC, dI)) (ci := 3) (v := .ref a25) (C := RX3) (T := TX3) (N := 8) hx hb hwd inlX3 hown hK hP 3 rfl rfl 2 (by decide) (hwd _ kr20_18) (fun _ h9 => h9) rfl dX0_raiseProfile_51 ?_
    refine lv_iload_n hx hb dX0_raiseProfile_54 rfl (lv_at hl 5 rfl) ?_
    have h143 : vp_in p1 24 := (vp_of (by omega) (by omega))
    refine va_iald hx hb hK hP 4 0 rfl rfl h143 dX0_raiseProfile_55 ?_
    refine lv_topi (nm_r (e' := x9) ex9.symm ?_)
    refine lv_goto (tgt := 60) hx hb dX0_raiseProfile_56 (by decide) ?_
    refine lv_istore (lv' := [(6, .int x9), (5, .int x7), (4, .int x4), (3, .int x2), (0, .ref a0), (1, .ref a18), (2, .int p1)]) hx hb dX0_raiseProfile_60 hl (by decide) rfl (fun ls hl => ?_)
    refine lv_iconst (v := 0) hx hb dX0_raiseProfile_62 (by decide) ?_
    refine lv_istore (lv' := [(7, .int 0), (6, .int x9), (5, .int x7), (4, .int x4), (3, .int x2), (0, .ref a0), (1, .ref a18), (2, .int p1)]) hx hb dX0_raiseProfile_63 hl (by decide) rfl (fun ls hl => ?_)
    have lp17 : ∀ (d : Nat), ∀ (H : Heap) (locs : List Loc) (ls : Array Slot) (w6_17 : Int32) (w7_17 : Int32) (g2_17 : Nat → Int32), ((0 : Int) ≤ w6_17.toInt ∧ w6_17.toInt ≤ 59) → ((0 : Int) ≤ w7_17.toInt ∧ w7_17.toInt ≤ 60) → (60 - w7_17.toInt).toNat < d → va_P (dC, dI) vwCl [(a0, .inr (0, [.ref a1, .ref a2, .ref a3, .ref a4, .ref a5, .ref a6, .ref a7])), (a1, .inl (cI, 24, .inl xF0)), (a3, .inl (cI, 60, .inl g2_17)), (a19, .inr (3, [.int i9, .ref a24, .ref a25, .ref a26, .ref a27, .ref a28, .ref a29, .ref a30])), (a25, .inl (cI, 24, .inl xF17)), (a26, .inl (cI, 24, .inl xF18)), (a28, .inl (cI, 24, .inl xF20)), (a18, .inr (2, [.int i0, .int i1, .int i2, .int i3, .int i4, .int i5, .int i6, .int i7, .int i8, .ref a19, .ref a20, .ref a21, .ref a22, .ref a23]))] H → va_D A [(a0, .inr (0, [.ref a1, .ref a2, .ref a3, .ref a4, .ref a5, .ref a6, .ref a7])), (a1, .inl (cI, 24, .inl xF0)), (a3, .inl (cI, 60, .inl g2_17)), (a19, .inr (3, [.int i9, .ref a24, .ref a25, .ref a26, .ref a27, .ref a28, .ref a29, .ref a30])), (a25, .inl (cI, 24, .inl xF17)), (a26, .inl (cI, 24, .inl xF18)), (a28, .inl (cI, 24, .inl xF20)), (a18, .inr (2, [.int i0, .int i1, .int i2, .int i3, .int i4, .int i5, .int i6, .int i7, .int i8, .ref a19, .ref a20, .ref a21, .ref a22, .ref a23]))] → va_S A s.heap H locs → lv_has ls 12 [(0, .ref a0), (1, .ref a18), (2, .int p1), (3, .int x2), (4, .int x4), (5, .int x7), (6, .int w6_17), (7, .int w7_17)] → W p l e ({ frames := 1, cells := 0, slots := 0, locals := 21 } : Room) s m ([.ref a0, .ref a18, .int p1] : List Value).toArray below meth c H locs 0 0 Q (F0 m 65 ls []) := by
      intro d
      induction d with
      | zero =>
        intro H locs ls w6_17 w7_17 g2_17 hr_w6_17 hr_w7_17 hm hP hD hS hl
        omega
      | succ d ih17 =>
        intro H locs ls w6_17 w7_17 g2_17 hr_w6_17 hr_w7_17 hm hP hD hS hl
        refine lv_iload hx hb dX0_raiseProfile_65 (lv_at hl 7 rfl) ?_
        refine lv_aload_n hx hb dX0_raiseProfile_67 rfl (lv_at hl 1 rfl) ?_
        refine va_get (D := (dC, dI)) (ci := 2) (v := .int i0) (C := RX2) (T := TX2) (N := 14) hx hb hwd inlX2 hown hK hP 7 rfl rfl 0 (by decide) (hwd _ kr20_11) (fun _ h9 => h9) rfl dX0_raiseProfile_68 ?_
        refine lv_icmp_ge (tgt := 172) hx hb dX0_raiseProfile_71 (by decide) (fun c238 => ?_) (fun c238 => ?_)
        · rw [ki_le] at c238
          have hP9 := hP.sub (ws' := [(a0, .inr (0, [.ref a1, .ref a2, .ref a3, .ref a4, .ref a5, .ref a6, .ref a7])), (a1, .inl (cI, 24, .inl xF0)), (a3, .inl (cI, 60, .inl g2_17)), (a18, .inr (2, [.int i0, .int i1, .int i2, .int i3, .int i4, .int i5, .int i6, .int i7, .int i8, .ref a19, .ref a20, .ref a21, .ref a22, .ref a23])), (a19, .inr (3, [.int i9, .ref a24, .ref a25, .ref a26, .ref a27, .ref a28, .ref a29, .ref a30])), (a25, .inl (cI, 24, .inl xF17)), (a26, .inl (cI, 24, .inl xF18)), (a28, .inl (cI, 24, .inl xF20))]) [0, 1, 2, 7, 3, 4, 5, 6] rfl
          have hD9 := hD.sub (ws' := [(a0, .inr (0, [.ref a1, .ref a2, .ref a3, .ref a4, .ref a5, .ref a6, .ref a7])), (a1, .inl (cI, 24, .inl xF0)), (a3, .inl (cI, 60, .inl g2_17)), (a18, .inr (2, [.int i0, .int i1, .int i2, .int i3, .int i4, .int i5, .int i6, .int i7, .int i8, .ref a19, .ref a20, .ref a21, .ref a22, .ref a23])), (a19, .inr (3, [.int i9, .ref a24, .ref a25, .ref a26, .ref a27, .ref a28, .ref a29, .ref a30])), (a25, .inl (cI, 24, .inl xF17)), (a26, .inl (cI, 24, .inl xF18)), (a28, .inl (cI, 24, .inl xF20))]) [0, 1, 2, 7, 3, 4, 5, 6] (by decide) rfl
          rw [hQ]
          exact W.vret hx hb hr (fun t ht hW => ⟨⟨(pickG 0 [], pickG (fun _ => 0) [g2_17], pickG (fun _ => 0) []), rfl, trivial, (by rw [ht]; exact hP9), hD9⟩, hS.F ht⟩) hS.2.2 dX0_raiseProfile_172
        · rw [ki_le] at c238
          refine lv_iload hx hb dX0_raiseProfile_74 (lv_at hl 7 rfl) ?_
          refine lv_iload hx hb dX0_raiseProfile_76 (lv_at hl 5 rfl) ?_
          refine lv_isub hx hb dX0_raiseProfile_78 ?_
          refine lv_topi (fun x239 ex239 => ?_)
          refine lv_istore (lv' := [(8, .int x239), (0, .ref a0), (1, .ref a18), (2, .int p1), (3, .int x2), (4, .int x4), (5, .int x7), (6, .int w6_17), (7, .int w7_17)]) hx hb dX0_raiseProfile_79 hl (by decide) rfl (fun ls hl => ?_)
          refine lv_aload_n hx hb dX0_raiseProfile_81 rfl (lv_at hl 2 rfl) ?_
          refine va_get (D := (dC, dI)) (ci := 2) (v := .int i0) (C := RX2) (T := TX2) (N := 14) hx hb hwd inlX2 hown hK hP 7 rfl rfl 0 (by decide) (hwd _ kr20_11) (fun _ h9 => h9) rfl dX0_raiseProfile_82 ?_
          refine lv_iload hx hb dX0_raiseProfile_85 (lv_at hl 8 rfl) ?_
          refine lv_isub hx hb dX0_raiseProfile_87 ?_
          refine lv_topi (fun x240 ex240 => ?_)
          have tx240 := ia_sub (a := i0) (b := w7_17) (by omega) (by omega)
          rw [← ex240] at tx240
          refine lv_istore (lv' := [(9, .int x240), (8, .int x239), (0, .ref a0), (1, .ref a18), (2, .int p1), (3, .int x2), (4, .int x4), (5, .int x7), (6, .int w6_17), (7, .int w7_17)]) hx hb dX0_raiseProfile_88 hl (by decide) rfl (fun ls hl => ?_)
          refine lv_iload hx hb dX0_raiseProfile_90 (lv_at hl 1 rfl) ?_
          have jp30 : ∀ (H : Heap) (locs : List Loc) (ls : Array Slot) (z0_30 : Int32), ((-58 : Int) ≤ z0_30.toInt ∧ z0_30.toInt ≤ 60) → va_P (dC, dI) vwCl [(a0, .inr (0, [.ref a1, .ref a2, .ref a3, .ref a4, .ref a5, .ref a6, .ref a7])), (a1, .inl (cI, 24, .inl xF0)), (a3, .inl (cI, 60, .inl g2_17)), (a19, .inr (3, [.int i9, .ref a24, .ref a25, .ref a26, .ref a27, .ref a28, .ref a29, .ref a30])), (a25, .inl (cI, 24, .inl xF17)), (a26, .inl (cI, 24, .inl xF18)), (a28, .inl (cI, 24, .inl xF20)), (a18, .inr (2, [.int i0, .int i1, .int i2, .int i3, .int i4, .int i5, .int i6, .int i7, .int i8, .ref a19, .ref a20, .ref a21, .ref a22, .ref a23]))] H → va_D A [(a0, .inr (0, [.ref a1, .ref a2, .ref a3, .ref a4, .ref a5, .ref a6, .ref a7])), (a1, .inl (cI, 24, .inl xF0)), (a3, .inl (cI, 60, .inl g2_17)), (a19, .inr (3, [.int i9, .ref a24, .ref a25, .ref a26, .ref a27, .ref a28, .ref a29, .ref a30])), (a25, .inl (cI, 24, .inl xF17)), (a26, .inl (cI, 24, .inl xF18)), (a28, .inl (cI, 24, .inl xF20)), (a18, .inr (2, [.int i0, .int i1, .int i2, .int i3, .int i4, .int i5, .int i6, .int i7, .int i8, .ref a19, .ref a20, .ref a21, .ref a22, .ref a23]))] → va_S A s.heap H locs → lv_has ls 12 [(0, .ref a0), (1, .ref a18), (2, .int p1), (3, .int x2), (4, .int x4), (5, .int x7), (6, .int w6_17), (7, .int w7_17), (8, .int x239), (9, .int x240)] → W p l e ({ frames := 1, cells := 0, slots := 0, locals := 21 } : Room) s m ([.ref a0, .ref a18, .int p1] : List Value).toArray below meth c H locs 0 0 Q (F0 m 113 ls [.int z0_30]) := by
            intro H locs ls z0_30 hr_z0_30 hP hD hS hl
            refine lv_istore (lv' := [(10, .int z0_30), (0, .ref a0), (1, .ref a18), (2, .int p1), (3, .int x2), (4, .int x4), (5, .int x7), (6, .int w6_17), (7, .int w7_17), (8, .int x239), (9, .int x240)]) hx hb dX0_raiseProfile_113 hl (by decide) rfl (fun ls hl => ?_)
            refine lv_iload_n hx hb dX0_raiseProfile_115 rfl (lv_at hl 4 rfl) ?_
            refine lv_iload hx hb dX0_raiseProfile_116 (lv_at hl 5 rfl) ?_
            refine lv_iload hx hb dX0_raiseProfile_118 (lv_at hl 0 rfl) ?_
            refine lv_imul hx hb dX0_raiseProfile_120 ?_
            refine lv_topi (fun x254 ex254 => ?_)
            refine lv_isub hx hb dX0_raiseProfile_121 ?_
            refine lv_topi (fun x255 ex255 => ?_)
            refine lv_istore (lv' := [(11, .int x255), (10, .int z0_30), (0, .ref a0), (1, .ref a18), (2, .int p1), (3, .int x2), (4, .int x4), (5, .int x7), (6, .int w6_17), (7, .int w7_17), (8, .int x239), (9, .int x240)]) hx hb dX0_raiseProfile_122 hl (by decide) rfl (fun ls hl => ?_)
            refine lv_iload hx hb dX0_raiseProfile_124 (lv_at hl 0 rfl) ?_
            refine lv_aload_n hx hb dX0_raiseProfile_126 rfl (lv_at hl 2 rfl) ?_
            refine va_get (D := (dC, dI)) (ci := 0) (v := .ref a3) (C := RX0) (T := TX0) (N := 7) hx hb hwd inlX0 hown hK hP 0 rfl rfl 2 (by decide) (hwd _ kr3_19) (fun _ h9 => h9) rfl dX0_raiseProfile_127 ?_
            refine lv_iload hx hb dX0_raiseProfile_130 (lv_at hl 8 rfl) ?_
            have h256 : vp_in w6_17 60 := (vp_of (by omega) (by omega))
            refine va_iald hx hb hK hP 2 0 rfl rfl h256 dX0_raiseProfile_132 ?_
            refine lv_topi (fun x257 ex257 => ?_)
            have jp32 : ∀ (H : Heap) (locs : List Loc) (ls : Array Slot) (g0_32 : Nat → Int32), va_P (dC, dI) vwCl [(a0, .inr (0, [.ref a1, .ref a2, .ref a3, .ref a4, .ref a5, .ref a6, .ref a7])), (a1, .inl (cI, 24, .inl xF0)), (a3, .inl (cI, 60, .inl g0_32)), (a19, .inr (3, [.int i9, .ref a24, .ref a25, .ref a26, .ref a27, .ref a28, .ref a29, .ref a30])), (a25, .inl (cI, 24, .inl xF17)), (a26, .inl (cI, 24, .inl xF18)), (a28, .inl (cI, 24, .inl xF20)), (a18, .inr (2, [.int i0, .int i1, .int i2, .int i3, .int i4, .int i5, .int i6, .int i7, .int i8, .ref a19, .ref a20, .ref a21, .ref a22, .ref a23]))] H → va_D A [(a0, .inr (0, [.ref a1, .ref a2, .ref a3, .ref a4, .ref a5, .ref a6, .ref a7])), (a1, .inl (cI, 24, .inl xF0)), (a3, .inl (cI, 60, .inl g0_32)), (a19, .inr (3, [.int i9, .ref a24, .ref a25, .ref a26, .ref a27, .ref a28, .ref a29, .ref a30])), (a25, .inl (cI, 24, .inl xF17)), (a26, .inl (cI, 24, .inl xF18)), (a28, .inl (cI, 24, .inl xF20)), (a18, .inr (2, [.int i0, .int i1, .int i2, .int i3, .int i4, .int i5, .int i6, .int i7, .int i8, .ref a19, .ref a20, .ref a21, .ref a22, .ref a23]))] → va_S A s.heap H locs → lv_has ls 12 [(0, .ref a0), (1, .ref a18), (2, .int p1), (3, .int x2), (4, .int x4), (5, .int x7), (6, .int w6_17), (7, .int w7_17), (8, .int x239), (9, .int x240), (10, .int z0_30), (11, .int x255)] → W p l e ({ frames := 1, cells := 0, slots := 0, locals := 21 } : Room) s m ([.ref a0, .ref a18, .int p1] : List Value).toArray below meth c H locs 0 0 Q (F0 m 145 ls []) := by
              intro H locs ls g0_32 hP hD hS hl
              refine lv_iload hx hb dX0_raiseProfile_145 (lv_at hl 6 rfl) ?_
              refine lv_iconst (v := 1) hx hb dX0_raiseProfile_147 (by decide) ?_
              refine lv_iadd hx hb dX0_raiseProfile_148 ?_
              refine lv_topi (fun x265 ex265 => ?_)
              have tx265 := ia_add (a := w6_17) (b := (1 : Int32)) (by omega) (by omega)
              rw [← ex265] at tx265
              refine lv_aload_n hx hb dX0_raiseProfile_149 rfl (lv_at hl 1 rfl) ?_
              refine va_get (D := (dC, dI)) (ci := 2) (v := .int i0) (C := RX2) (T := TX2) (N := 14) hx hb hwd inlX2 hown hK hP 7 rfl rfl 0 (by decide) (hwd _ kr20_11) (fun _ h9 => h9) rfl dX0_raiseProfile_150 ?_
              refine lv_icmp_ge (tgt := 163) hx hb dX0_raiseProfile_153 (by decide) (fun c266 => ?_) (fun c266 => ?_)
              · rw [ki_le] at c266
                refine lv_iconst (v := 0) hx hb dX0_raiseProfile_163 (by decide) ?_
                refine lv_istore (lv' := [(6, .int 0), (0, .ref a0), (1, .ref a18), (2, .int p1), (3, .int x2), (4, .int x4), (5, .int x7), (7, .int w7_17), (8, .int x239), (9, .int x240), (10, .int z0_30), (11, .int x255)]) hx hb dX0_raiseProfile_164 hl (by decide) rfl (fun ls hl => ?_)
                obtain ⟨x267, ex267⟩ : ∃ y : Int32, y = w7_17 + 1 := ⟨_, rfl⟩
                refine lv_iinc (v := x267) (lv' := [(7, .int x267), (6, .int 0), (0, .ref a0), (1, .ref a18), (2, .int p1), (3, .int x2), (4, .int x4), (5, .int x7), (8, .int x239), (9, .int x240), (10, .int z0_30), (11, .int x255)]) hx hb dX0_raiseProfile_166 hl (k := 7) rfl (by rw [ex267]; rfl) (by decide) rfl (fun ls hl => ?_)
                have tx267 := ia_add (a := w7_17) (b := (1 : Int32)) (by omega) (by omega)
                rw [← ex267] at tx267
                refine lv_goto (tgt := 65) hx hb dX0_raiseProfile_169 (by decide) ?_
                exact ih17 _ _ ls (0) x267 g0_32 (show (0 : Int) ≤ (0 : Int32).toInt ∧ (0 : Int32).toInt ≤ 59 from ⟨by omega, by omega⟩) (show (0 : Int) ≤ x267.toInt ∧ x267.toInt ≤ 60 from ⟨by omega, by omega⟩) (by omega) (hP.sub (ws' := [(a0, .inr (0, [.ref a1, .ref a2, .ref a3, .ref a4, .ref a5, .ref a6, .ref a7])), (a1, .inl (cI, 24, .inl xF0)), (a3, .inl (cI, 60, .inl g0_32)), (a19, .inr (3, [.int i9, .ref a24, .ref a25, .ref a26, .ref a27, .ref a28, .ref a29, .ref a30])), (a25, .inl (cI, 24, .inl xF17)), (a26, .inl (cI, 24, .inl xF18)), (a28, .inl (cI, 24, .inl xF20)), (a18, .inr (2, [.int i0, .int i1, .int i2, .int i3, .int i4, .int i5, .int i6, .int i7, .int i8, .ref a19, .ref a20, .ref a21, .ref a22, .ref a23]))]) [0, 1, 2, 3, 4, 5, 6, 7] rfl) (hD.sub (ws' := [(a0, .inr (0, [.ref a1, .ref a2, .ref a3, .ref a4, .ref a5, .ref a6, .ref a7])), (a1, .inl (cI, 24, .inl xF0)), (a3, .inl (cI, 60, .inl g0_32)), (a19, .inr (3, [.int i9, .ref a24, .ref a25, .ref a26, .ref a27, .ref a28, .ref a29, .ref a30])), (a25, .inl (cI, 24, .inl xF17)), (a26, .inl (cI, 24, .inl xF18)), (a28, .inl (cI, 24, .inl xF20)), (a18, .inr (2, [.int i0, .int i1, .int i2, .int i3, .int i4, .int i5, .int i6, .int i7, .int i8, .ref a19, .ref a20, .ref a21, .ref a22, .ref a23]))]) [0, 1, 2, 3, 4, 5, 6, 7] (by decide) rfl) hS (lv_sub hl [2, 3, 4, 5, 6, 7, 1, 0] rfl)
              · rw [ki_le] at c266
                refine lv_iload hx hb dX0_raiseProfile_156 (lv_at hl 6 rfl) ?_
                refine lv_iconst (v := 1) hx hb dX0_raiseProfile_158 (by decide) ?_
                refine lv_iadd hx hb dX0_raiseProfile_159 ?_
                refine lv_topi (fun x268 ex268 => ?_)
                have tx268 := ia_add (a := w6_17) (b := (1 : Int32)) (by omega) (by omega)
                rw [← ex268] at tx268
                refine lv_goto (tgt := 164) hx hb dX0_raiseProfile_160 (by decide) ?_
                refine lv_istore (lv' := [(6, .int x268), (0, .ref a0), (1, .ref a18), (2, .int p1), (3, .int x2), (4, .int x4), (5, .int x7), (7, .int w7_17), (8, .int x239), (9, .int x240), (10, .int z0_30), (11, .int x255)]) hx hb dX0_raiseProfile_164 hl (by decide) rfl (fun ls hl => ?_)
                obtain ⟨x269, ex269⟩ : ∃ y : Int32, y = w7_17 + 1 := ⟨_, rfl⟩
                refine lv_iinc (v := x269) (lv' := [(7, .int x269), (6, .int x268), (0, .ref a0), (1, .ref a18), (2, .int p1), (3, .int x2), (4, .int x4), (5, .int x7), (8, .int x239), (9, .int x240), (10, .int z0_30), (11, .int x255)]) hx hb dX0_raiseProfile_166 hl (k := 7) rfl (by rw [ex269]; rfl) (by decide) rfl (fun ls hl => ?_)
                have tx269 := ia_add (a := w7_17) (b := (1 : Int32)) (by omega) (by omega)
                rw [← ex269] at tx269
                refine lv_goto (tgt := 65) hx hb dX0_raiseProfile_169 (by decide) ?_
                exact ih17 _ _ ls x268 x269 g0_32 (show (0 : Int) ≤ x268.toInt ∧ x268.toInt ≤ 59 from ⟨by omega, by omega⟩) (show (0 : Int) ≤ x269.toInt ∧ x269.toInt ≤ 60 from ⟨by omega, by omega⟩) (by omega) (hP.sub (ws' := [(a0, .inr (0, [.ref a1, .ref a2, .ref a3, .ref a4, .ref a5, .ref a6, .ref a7])), (a1, .inl (cI, 24, .inl xF0)), (a3, .inl (cI, 60, .inl g0_32)), (a19, .inr (3, [.int i9, .ref a24, .ref a25, .ref a26, .ref a27, .ref a28, .ref a29, .ref a30])), (a25, .inl (cI, 24, .inl xF17)), (a26, .inl (cI, 24, .inl xF18)), (a28, .inl (cI, 24, .inl xF20)), (a18, .inr (2, [.int i0, .int i1, .int i2, .int i3, .int i4, .int i5, .int i6, .int i7, .int i8, .ref a19, .ref a20, .ref a21, .ref a22, .ref a23]))]) [0, 1, 2, 3, 4, 5, 6, 7] rfl) (hD.sub (ws' := [(a0, .inr (0, [.ref a1, .ref a2, .ref a3, .ref a4, .ref a5, .ref a6, .ref a7])), (a1, .inl (cI, 24, .inl xF0)), (a3, .inl (cI, 60, .inl g0_32)), (a19, .inr (3, [.int i9, .ref a24, .ref a25, .ref a26, .ref a27, .ref a28, .ref a29, .ref a30])), (a25, .inl (cI, 24, .inl xF17)), (a26, .inl (cI, 24, .inl xF18)), (a28, .inl (cI, 24, .inl xF20)), (a18, .inr (2, [.int i0, .int i1, .int i2, .int i3, .int i4, .int i5, .int i6, .int i7, .int i8, .ref a19, .ref a20, .ref a21, .ref a22, .ref a23]))]) [0, 1, 2, 3, 4, 5, 6, 7] (by decide) rfl) hS (lv_sub hl [2, 3, 4, 5, 6, 7, 1, 0] rfl)
            refine lv_icmp_le (tgt := 145) hx hb dX0_raiseProfile_133 (by decide) (fun c270 => ?_) (fun c270 => ?_)
            · rw [ki_le] at c270
              exact jp32 _ _ ls g2_17 (hP.sub (ws' := [(a0, .inr (0, [.ref a1, .ref a2, .ref a3, .ref a4, .ref a5, .ref a6, .ref a7])), (a1, .inl (cI, 24, .inl xF0)), (a3, .inl (cI, 60, .inl g2_17)), (a19, .inr (3, [.int i9, .ref a24, .ref a25, .ref a26, .ref a27, .ref a28, .ref a29, .ref a30])), (a25, .inl (cI, 24, .inl xF17)), (a26, .inl (cI, 24, .inl xF18)), (a28, .inl (cI, 24, .inl xF20)), (a18, .inr (2, [.int i0, .int i1, .int i2, .int i3, .int i4, .int i5, .int i6, .int i7, .int i8, .ref a19, .ref a20, .ref a21, .ref a22, .ref a23]))]) [0, 1, 2, 3, 4, 5, 6, 7] rfl) (hD.sub (ws' := [(a0, .inr (0, [.ref a1, .ref a2, .ref a3, .ref a4, .ref a5, .ref a6, .ref a7])), (a1, .inl (cI, 24, .inl xF0)), (a3, .inl (cI, 60, .inl g2_17)), (a19, .inr (3, [.int i9, .ref a24, .ref a25, .ref a26, .ref a27, .ref a28, .ref a29, .ref a30])), (a25, .inl (cI, 24, .inl xF17)), (a26, .inl (cI, 24, .inl xF18)), (a28, .inl (cI, 24, .inl xF20)), (a18, .inr (2, [.int i0, .int i1, .int i2, .int i3, .int i4, .int i5, .int i6, .int i7, .int i8, .ref a19, .ref a20, .ref a21, .ref a22, .ref a23]))]) [0, 1, 2, 3, 4, 5, 6, 7] (by decide) rfl) hS (lv_sub hl [2, 3, 4, 5, 6, 7, 8, 9, 10, 11, 1, 0] rfl)
            · rw [ki_le] at c270
              refine lv_aload_n hx hb dX0_raiseProfile_136 rfl (lv_at hl 2 rfl) ?_
              refine va_get (D := (dC, dI)) (ci := 0) (v := .ref a3) (C := RX0) (T := TX0) (N := 7) hx hb hwd inlX0 hown hK hP 0 rfl rfl 2 (by decide) (hwd _ kr3_19) (fun _ h9 => h9) rfl dX0_raiseProfile_137 ?_
              refine lv_iload hx hb dX0_raiseProfile_140 (lv_at hl 8 rfl) ?_
              refine lv_iload hx hb dX0_raiseProfile_142 (lv_at hl 0 rfl) ?_
              refine va_iast hx hb hK hP hD hS 2 0 rfl rfl (vp_of (by omega) (by omega)) dX0_raiseProfile_144 (fun H locs hP hD hS => ?_)
              obtain ⟨f271, ef271⟩ : ∃ f, f = upd g2_17 w6_17.toNatClampNeg x255 := ⟨_, rfl⟩
              have hP : va_P (dC, dI) vwCl [(a0, .inr (0, [.ref a1, .ref a2, .ref a3, .ref a4, .ref a5, .ref a6, .ref a7])), (a1, .inl (cI, 24, .inl xF0)), (a3, .inl (cI, 60, .inl f271)), (a19, .inr (3, [.int i9, .ref a24, .ref a25, .ref a26, .ref a27, .ref a28, .ref a29, .ref a30])), (a25, .inl (cI, 24, .inl xF17)), (a26, .inl (cI, 24, .inl xF18)), (a28, .inl (cI, 24, .inl xF20)), (a18, .inr (2, [.int i0, .int i1, .int i2, .int i3, .int i4, .int i5, .int i6, .int i7, .int i8, .ref a19, .ref a20, .ref a21, .ref a22, .ref a23]))] H := by rw [ef271]; exact hP
              have hD : va_D A [(a0, .inr (0, [.ref a1, .ref a2, .ref a3, .ref a4, .ref a5, .ref a6, .ref a7])), (a1, .inl (cI, 24, .inl xF0)), (a3, .inl (cI, 60, .inl f271)), (a19, .inr (3, [.int i9, .ref a24, .ref a25, .ref a26, .ref a27, .ref a28, .ref a29, .ref a30])), (a25, .inl (cI, 24, .inl xF17)), (a26, .inl (cI, 24, .inl xF18)), (a28, .inl (cI, 24, .inl xF20)), (a18, .inr (2, [.int i0, .int i1, .int i2, .int i3, .int i4, .int i5, .int i6, .int i7, .int i8, .ref a19, .ref a20, .ref a21, .ref a22, .ref a23]))] := by rw [ef271]; exact hD
              exact jp32 _ _ ls f271 (hP.sub (ws' := [(a0, .inr (0, [.ref a1, .ref a2, .ref a3, .ref a4, .ref a5, .ref a6, .ref a7])), (a1, .inl (cI, 24, .inl xF0)), (a3, .inl (cI, 60, .inl f271)), (a19, .inr (3, [.int i9, .ref a24, .ref a25, .ref a26, .ref a27, .ref a28, .ref a29, .ref a30])), (a25, .inl (cI, 24, .inl xF17)), (a26, .inl (cI, 24, .inl xF18)), (a28, .inl (cI, 24, .inl xF20)), (a18, .inr (2, [.int i0, .int i1, .int i2, .int i3, .int i4, .int i5, .int i6, .int i7, .int i8, .ref a19, .ref a20, .ref a21, .ref a22, .ref a23]))]) [0, 1, 2, 3, 4, 5, 6, 7] rfl) (hD.sub (ws' := [(a0, .inr (0, [.ref a1, .ref a2, .ref a3, .ref a4, .ref a5, .ref a6, .ref a7])), (a1, .inl (cI, 24, .inl xF0)), (a3, .inl (cI, 60, .inl f271)), (a19, .inr (3, [.int i9, .ref a24, .ref a25, .ref a26, .ref a27, .ref a28, .ref a29, .ref a30])), (a25, .inl (cI, 24, .inl xF17)), (a26, .inl (cI, 24, .inl xF18)), (a28, .inl (cI, 24, .inl xF20)), (a18, .inr (2, [.int i0, .int i1, .int i2, .int i3, .int i4, .int i5, .int i6, .int i7, .int i8, .ref a19, .ref a20, .ref a21, .ref a22, .ref a23]))]) [0, 1, 2, 3, 4, 5, 6, 7] (by decide) rfl) hS (lv_sub hl [2, 3, 4, 5, 6, 7, 8, 9, 10, 11, 1, 0] rfl)
          refine lv_if_gt (tgt := 99) hx hb dX0_raiseProfile_92 (by decide) (fun c272 => ?_) (fun c272 => ?_)
          · rw [ki_lt] at c272
            refine lv_iload hx hb dX0_raiseProfile_99 (lv_at hl 1 rfl) ?_
            refine lv_iload hx hb dX0_raiseProfile_101 (lv_at hl 0 rfl) ?_
            refine lv_icmp_ge (tgt := 111) hx hb dX0_raiseProfile_103 (by decide) (fun c273 => ?_) (fun c273 => ?_)
            · rw [ki_le] at c273
              refine lv_iload hx hb dX0_raiseProfile_111 (lv_at hl 0 rfl) ?_
              exact jp30 _ _ ls x240 (show (-58 : Int) ≤ x240.toInt ∧ x240.toInt ≤ 60 from ⟨by omega, by omega⟩) (hP.sub (ws' := [(a0, .inr (0, [.ref a1, .ref a2, .ref a3, .ref a4, .ref a5, .ref a6, .ref a7])), (a1, .inl (cI, 24, .inl xF0)), (a3, .inl (cI, 60, .inl g2_17)), (a19, .inr (3, [.int i9, .ref a24, .ref a25, .ref a26, .ref a27, .ref a28, .ref a29, .ref a30])), (a25, .inl (cI, 24, .inl xF17)), (a26, .inl (cI, 24, .inl xF18)), (a28, .inl (cI, 24, .inl xF20)), (a18, .inr (2, [.int i0, .int i1, .int i2, .int i3, .int i4, .int i5, .int i6, .int i7, .int i8, .ref a19, .ref a20, .ref a21, .ref a22, .ref a23]))]) [0, 1, 2, 3, 4, 5, 6, 7] rfl) (hD.sub (ws' := [(a0, .inr (0, [.ref a1, .ref a2, .ref a3, .ref a4, .ref a5, .ref a6, .ref a7])), (a1, .inl (cI, 24, .inl xF0)), (a3, .inl (cI, 60, .inl g2_17)), (a19, .inr (3, [.int i9, .ref a24, .ref a25, .ref a26, .ref a27, .ref a28, .ref a29, .ref a30])), (a25, .inl (cI, 24, .inl xF17)), (a26, .inl (cI, 24, .inl xF18)), (a28, .inl (cI, 24, .inl xF20)), (a18, .inr (2, [.int i0, .int i1, .int i2, .int i3, .int i4, .int i5, .int i6, .int i7, .int i8, .ref a19, .ref a20, .ref a21, .ref a22, .ref a23]))]) [0, 1, 2, 3, 4, 5, 6, 7] (by decide) rfl) hS (lv_sub hl [2, 3, 4, 5, 6, 7, 8, 9, 1, 0] rfl)
            · rw [ki_le] at c273
              refine lv_iload hx hb dX0_raiseProfile_106 (lv_at hl 1 rfl) ?_
              refine lv_goto (tgt := 113) hx hb dX0_raiseProfile_108 (by decide) ?_
              exact jp30 _ _ ls x239 (show (-58 : Int) ≤ x239.toInt ∧ x239.toInt ≤ 60 from ⟨by omega, by omega⟩) (hP.sub (ws' := [(a0, .inr (0, [.ref a1, .ref a2, .ref a3, .ref a4, .ref a5, .ref a6, .ref a7])), (a1, .inl (cI, 24, .inl xF0)), (a3, .inl (cI, 60, .inl g2_17)), (a19, .inr (3, [.int i9, .ref a24, .ref a25, .ref a26, .ref a27, .ref a28, .ref a29, .ref a30])), (a25, .inl (cI, 24, .inl xF17)), (a26, .inl (cI, 24, .inl xF18)), (a28, .inl (cI, 24, .inl xF20)), (a18, .inr (2, [.int i0, .int i1, .int i2, .int i3, .int i4, .int i5, .int i6, .int i7, .int i8, .ref a19, .ref a20, .ref a21, .ref a22, .ref a23]))]) [0, 1, 2, 3, 4, 5, 6, 7] rfl) (hD.sub (ws' := [(a0, .inr (0, [.ref a1, .ref a2, .ref a3, .ref a4, .ref a5, .ref a6, .ref a7])), (a1, .inl (cI, 24, .inl xF0)), (a3, .inl (cI, 60, .inl g2_17)), (a19, .inr (3, [.int i9, .ref a24, .ref a25, .ref a26, .ref a27, .ref a28, .ref a29, .ref a30])), (a25, .inl (cI, 24, .inl xF17)), (a26, .inl (cI, 24, .inl xF18)), (a28, .inl (cI, 24, .inl xF20)), (a18, .inr (2, [.int i0, .int i1, .int i2, .int i3, .int i4, .int i5, .int i6, .int i7, .int i8, .ref a19, .ref a20, .ref a21, .ref a22, .ref a23]))]) [0, 1, 2, 3, 4, 5, 6, 7] (by decide) rfl) hS (lv_sub hl [2, 3, 4, 5, 6, 7, 8, 9, 1, 0] rfl)
          · rw [ki_lt] at c272
            refine lv_iconst (v := 0) hx hb dX0_raiseProfile_95 (by decide) ?_
            refine lv_goto (tgt := 113) hx hb dX0_raiseProfile_96 (by decide) ?_
            exact jp30 _ _ ls (0) (show (-58 : Int) ≤ (0 : Int32).toInt ∧ (0 : Int32).toInt ≤ 60 from ⟨by omega, by omega⟩) (hP.sub (ws' := [(a0, .inr (0, [.ref a1, .ref a2, .ref a3, .ref a4, .ref a5, .ref a6, .ref a7])), (a1, .inl (cI, 24, .inl xF0)), (a3, .inl (cI, 60, .inl g2_17)), (a19, .inr (3, [.int i9, .ref a24, .ref a25, .ref a26, .ref a27, .ref a28, .ref a29, .ref a30])), (a25, .inl (cI, 24, .inl xF17)), (a26, .inl (cI, 24, .inl xF18)), (a28, .inl (cI, 24, .inl xF20)), (a18, .inr (2, [.int i0, .int i1, .int i2, .int i3, .int i4, .int i5, .int i6, .int i7, .int i8, .ref a19, .ref a20, .ref a21, .ref a22, .ref a23]))]) [0, 1, 2, 3, 4, 5, 6, 7] rfl) (hD.sub (ws' := [(a0, .inr (0, [.ref a1, .ref a2, .ref a3, .ref a4, .ref a5, .ref a6, .ref a7])), (a1, .inl (cI, 24, .inl xF0)), (a3, .inl (cI, 60, .inl g2_17)), (a19, .inr (3, [.int i9, .ref a24, .ref a25, .ref a26, .ref a27, .ref a28, .ref a29, .ref a30])), (a25, .inl (cI, 24, .inl xF17)), (a26, .inl (cI, 24, .inl xF18)), (a28, .inl (cI, 24, .inl xF20)), (a18, .inr (2, [.int i0, .int i1, .int i2, .int i3, .int i4, .int i5, .int i6, .int i7, .int i8, .ref a19, .ref a20, .ref a21, .ref a22, .ref a23]))]) [0, 1, 2, 3, 4, 5, 6, 7] (by decide) rfl) hS (lv_sub hl [2, 3, 4, 5, 6, 7, 8, 9, 1, 0] rfl)
    exact lp17 _ _ _ ls x9 (0) xF2 (show (0 : Int) ≤ x9.toInt ∧ x9.toInt ≤ 59 from ⟨by omega, by omega⟩) (show (0 : Int) ≤ (0 : Int32).toInt ∧ (0 : Int32).toInt ≤ 60 from ⟨by omega, by omega⟩) (Nat.lt_succ_self _) (hP.sub (ws' := [(a0, .inr (0, [.ref a1, .ref a2, .ref a3, .ref a4, .ref a5, .ref a6, .ref a7])), (a1, .inl (cI, 24, .inl xF0)), (a3, .inl (cI, 60, .inl xF2)), (a19, .inr (3, [.int i9, .ref a24, .ref a25, .ref a26, .ref a27, .ref a28, .ref a29, .ref a30])), (a25, .inl (cI, 24, .inl xF17)), (a26, .inl (cI, 24, .inl xF18)), (a28, .inl (cI, 24, .inl xF20)), (a18, .inr (2, [.int i0, .int i1, .int i2, .int i3, .int i4, .int i5, .int i6, .int i7, .int i8, .ref a19, .ref a20, .ref a21, .ref a22, .ref a23]))]) [0, 1, 2, 3, 4, 5, 6, 7] rfl) (hD.sub (ws' := [(a0, .inr (0, [.ref a1, .ref a2, .ref a3, .ref a4, .ref a5, .ref a6, .ref a7])), (a1, .inl (cI, 24, .inl xF0)), (a3, .inl (cI, 60, .inl xF2)), (a19, .inr (3, [.int i9, .ref a24, .ref a25, .ref a26, .ref a27, .ref a28, .ref a29, .ref a30])), (a25, .inl (cI, 24, .inl xF17)), (a26, .inl (cI, 24, .inl xF18)), (a28, .inl (cI, 24, .inl xF20)), (a18, .inr (2, [.int i0, .int i1, .int i2, .int i3, .int i4, .int i5, .int i6, .int i7, .int i8, .ref a19, .ref a20, .ref a21, .ref a22, .ref a23]))]) [0, 1, 2, 3, 4, 5, 6, 7] (by decide) rfl) hS (lv_sub hl [5, 6, 7, 4, 3, 2, 1, 0] rfl)
theorem dX0_fillProfile_0 : decode cX0_fillProfile 0 = .ok (.aload_n 0, 1) := by decide +kernel
theorem dX0_fillProfile_1 : decode cX0_fillProfile 1 = .ok (.aload_n 1, 1) := by decide +kernel
theorem dX0_fillProfile_2 : decode cX0_fillProfile 2 = .ok (.invokevirtual 63, 3) := by decide +kernel
theorem dX0_fillProfile_5 : decode cX0_fillProfile 5 = .ok (.iconst 0, 1) := by decide +kernel
theorem dX0_fillProfile_6 : decode cX0_fillProfile 6 = .ok (.istore_n 3, 1) := by decide +kernel
theorem dX0_fillProfile_7 : decode cX0_fillProfile 7 = .ok (.iload_n 3, 1) := by decide +kernel
theorem dX0_fillProfile_8 : decode cX0_fillProfile 8 = .ok (.aload_n 1, 1) := by decide +kernel
theorem dX0_fillProfile_9 : decode cX0_fillProfile 9 = .ok (.getfield 48, 3) := by decide +kernel
theorem dX0_fillProfile_12 : decode cX0_fillProfile 12 = .ok (.getfield 35, 3) := by decide +kernel
theorem dX0_fillProfile_15 : decode cX0_fillProfile 15 = .ok (.if_icmp .ge 37, 3) := by decide +kernel
theorem dX0_fillProfile_18 : decode cX0_fillProfile 18 = .ok (.aload_n 1, 1) := by decide +kernel
theorem dX0_fillProfile_19 : decode cX0_fillProfile 19 = .ok (.getfield 48, 3) := by decide +kernel
theorem dX0_fillProfile_22 : decode cX0_fillProfile 22 = .ok (.getfield 67, 3) := by decide +kernel
theorem dX0_fillProfile_25 : decode cX0_fillProfile 25 = .ok (.iload_n 3, 1) := by decide +kernel
theorem dX0_fillProfile_26 : decode cX0_fillProfile 26 = .ok (.iaload, 1) := by decide +kernel
theorem dX0_fillProfile_27 : decode cX0_fillProfile 27 = .ok (.iload_n 2, 1) := by decide +kernel
theorem dX0_fillProfile_28 : decode cX0_fillProfile 28 = .ok (.if_icmp .ne 18, 3) := by decide +kernel
theorem dX0_fillProfile_31 : decode cX0_fillProfile 31 = .ok (.aload_n 0, 1) := by decide +kernel
theorem dX0_fillProfile_32 : decode cX0_fillProfile 32 = .ok (.getfield 9, 3) := by decide +kernel
theorem dX0_fillProfile_35 : decode cX0_fillProfile 35 = .ok (.iload_n 3, 1) := by decide +kernel
theorem dX0_fillProfile_36 : decode cX0_fillProfile 36 = .ok (.iaload, 1) := by decide +kernel
theorem dX0_fillProfile_37 : decode cX0_fillProfile 37 = .ok (.ifCond .le 9, 3) := by decide +kernel
theorem dX0_fillProfile_40 : decode cX0_fillProfile 40 = .ok (.aload_n 0, 1) := by decide +kernel
theorem dX0_fillProfile_41 : decode cX0_fillProfile 41 = .ok (.aload_n 1, 1) := by decide +kernel
theorem dX0_fillProfile_42 : decode cX0_fillProfile 42 = .ok (.iload_n 3, 1) := by decide +kernel
theorem dX0_fillProfile_43 : decode cX0_fillProfile 43 = .ok (.invokevirtual 70, 3) := by decide +kernel
theorem dX0_fillProfile_46 : decode cX0_fillProfile 46 = .ok (.iinc 3 1, 3) := by decide +kernel
theorem dX0_fillProfile_49 : decode cX0_fillProfile 49 = .ok (.goto (-42), 3) := by decide +kernel
theorem dX0_fillProfile_52 : decode cX0_fillProfile 52 = .ok (.return_, 1) := by decide +kernel
set_option maxHeartbeats 4000000 in
set_option maxRecDepth 100000 in
theorem s_X0_fillProfile (l : Launch) (dC : Nat → ClassId) (dI : Nat → Nat → Nat) (cI cZ cB cJ cM cG : ClassId) (a0 a1 a2 a3 a4 a5 a6 a7 a18 a19 a20 a21 a22 a23 a24 a25 a26 a27 a28 a29 a30 : Nat) (i0 i1 i2 i3 i4 i5 i6 i7 i8 i9 : Int32) (xF0 xF2 xF16 xF17 xF18 xF20 : Nat → Int32) (p1 : Int32) (sz : Nat) (p_0 : (0 : Int) ≤ i0.toInt ∧ i0.toInt ≤ 60) (p_1 : (0 : Int) ≤ i3.toInt ∧ i3.toInt ≤ 6) (p_2 : (0 : Int) ≤ i5.toInt ∧ i5.toInt ≤ 1) (p_3 : (0 : Int) ≤ i8.toInt ∧ i8.toInt ≤ 1) (p_4 : (0 : Int) ≤ i9.toInt ∧ i9.toInt ≤ 24) : Met l yX0_fillProfile (kw yX0_fillProfile cX0_fillProfile 4 none) ({ frames := 2, cells := 0, slots := 0, locals := 52 } : Room) (va_Pc [.ref a0, .ref a18, .int p1] (kPre dC dI [(cI, .int), (cZ, .boolean), (cB, .byte), (cJ, .long), (cM, .object RX2), (cG, .array .int)] [(a0, .inr (0, [.ref a1, .ref a2, .ref a3, .ref a4, .ref a5, .ref a6, .ref a7])), (a1, .inl (cI, 24, .inl xF0)), (a3, .inl (cI, 60, .inl xF2)), (a18, .inr (2, [.int i0, .int i1, .int i2, .int i3, .int i4, .int i5, .int i6, .int i7, .int i8, .ref a19, .ref a20, .ref a21, .ref a22, .ref a23])), (a19, .inr (3, [.int i9, .ref a24, .ref a25, .ref a26, .ref a27, .ref a28, .ref a29, .ref a30])), (a24, .inl (cI, 24, .inl xF16)), (a25, .inl (cI, 24, .inl xF17)), (a26, .inl (cI, 24, .inl xF18)), (a28, .inl (cI, 24, .inl xF20))] sz)) (va_Qv (fun (u9 : (Nat → Int32) × (Nat → Nat → Int32) × (Nat → Nat → Int64)) => True) (fun u9 t => va_P (dC, dI) vwCl [(a0, .inr (0, [.ref a1, .ref a2, .ref a3, .ref a4, .ref a5, .ref a6, .ref a7])), (a1, .inl (cI, 24, .inl xF0)), (a3, .inl (cI, 60, .inl (u9.2.1 0))), (a18, .inr (2, [.int i0, .int i1, .int i2, .int i3, .int i4, .int i5, .int i6, .int i7, .int i8, .ref a19, .ref a20, .ref a21, .ref a22, .ref a23])), (a19, .inr (3, [.int i9, .ref a24, .ref a25, .ref a26, .ref a27, .ref a28, .ref a29, .ref a30])), (a24, .inl (cI, 24, .inl xF16)), (a25, .inl (cI, 24, .inl xF17)), (a26, .inl (cI, 24, .inl xF18)), (a28, .inl (cI, 24, .inl xF20))] t.heap ∧ va_D (va_A [(a0, .inr (0, [.ref a1, .ref a2, .ref a3, .ref a4, .ref a5, .ref a6, .ref a7])), (a1, .inl (cI, 24, .inl xF0)), (a3, .inl (cI, 60, .inl xF2)), (a18, .inr (2, [.int i0, .int i1, .int i2, .int i3, .int i4, .int i5, .int i6, .int i7, .int i8, .ref a19, .ref a20, .ref a21, .ref a22, .ref a23])), (a19, .inr (3, [.int i9, .ref a24, .ref a25, .ref a26, .ref a27, .ref a28, .ref a29, .ref a30])), (a24, .inl (cI, 24, .inl xF16)), (a25, .inl (cI, 24, .inl xF17)), (a26, .inl (cI, 24, .inl xF18)), (a28, .inl (cI, 24, .inl xF20))] sz) [(a0, .inr (0, [.ref a1, .ref a2, .ref a3, .ref a4, .ref a5, .ref a6, .ref a7])), (a1, .inl (cI, 24, .inl xF0)), (a3, .inl (cI, 60, .inl (u9.2.1 0))), (a18, .inr (2, [.int i0, .int i1, .int i2, .int i3, .int i4, .int i5, .int i6, .int i7, .int i8, .ref a19, .ref a20, .ref a21, .ref a22, .ref a23])), (a19, .inr (3, [.int i9, .ref a24, .ref a25, .ref a26, .ref a27, .ref a28, .ref a29, .ref a30])), (a24, .inl (cI, 24, .inl xF16)), (a25, .inl (cI, 24, .inl xF17)), (a26, .inl (cI, 24, .inl xF18)), (a28, .inl (cI, 24, .inl xF20))]) (va_A [(a0, .inr (0, [.ref a1, .ref a2, .ref a3, .ref a4, .ref a5, .ref a6, .ref a7])), (a1, .inl (cI, 24, .inl xF0)), (a3, .inl (cI, 60, .inl xF2)), (a18, .inr (2, [.int i0, .int i1, .int i2, .int i3, .int i4, .int i5, .int i6, .int i7, .int i8, .ref a19, .ref a20, .ref a21, .ref a22, .ref a23])), (a19, .inr (3, [.int i9, .ref a24, .ref a25, .ref a26, .ref a27, .ref a28, .ref a29, .ref a30])), (a24, .inl (cI, 24, .inl xF16)), (a25, .inl (cI, 24, .inl xF17)), (a26, .inl (cI, 24, .inl xF18)), (a28, .inl (cI, 24, .inl xF20))] sz)) 0 0 (va_A [(a0, .inr (0, [.ref a1, .ref a2, .ref a3, .ref a4, .ref a5, .ref a6, .ref a7])), (a1, .inl (cI, 24, .inl xF0)), (a3, .inl (cI, 60, .inl xF2)), (a18, .inr (2, [.int i0, .int i1, .int i2, .int i3, .int i4, .int i5, .int i6, .int i7, .int i8, .ref a19, .ref a20, .ref a21, .ref a22, .ref a23])), (a19, .inr (3, [.int i9, .ref a24, .ref a25, .ref a26, .ref a27, .ref a28, .ref a29, .ref a30])), (a24, .inl (cI, 24, .inl xF16)), (a25, .inl (cI, 24, .inl xF17)), (a26, .inl (cI, 24, .inl xF18)), (a28, .inl (cI, 24, .inl xF20))] sz) := by
  refine kEnter (by decide) (Nat.le_of_ble_eq_true rfl) ?_
  intro p e s m below meth c ls hx hb hr hml hown hlocks hin hwd hsz hP hK hD hl
  subst hsz
  generalize hAe : va_A [(a0, .inr (0, [.ref a1, .ref a2, .ref a3, .ref a4, .ref a5, .ref a6, .ref a7])), (a1, .inl (cI, 24, .inl xF0)), (a3, .inl (cI, 60, .inl xF2)), (a18, .inr (2, [.int i0, .int i1, .int i2, .int i3, .int i4, .int i5, .int i6, .int i7, .int i8, .ref a19, .ref a20, .ref a21, .ref a22, .ref a23])), (a19, .inr (3, [.int i9, .ref a24, .ref a25, .ref a26, .ref a27, .ref a28, .ref a29, .ref a30])), (a24, .inl (cI, 24, .inl xF16)), (a25, .inl (cI, 24, .inl xF17)), (a26, .inl (cI, 24, .inl xF18)), (a28, .inl (cI, 24, .inl xF20))] s.heap.size = A at hD ⊢
  have hA : ∀ q : Nat, s.heap.size ≤ q → A q := fun q h => by rw [← hAe]; exact Or.inr h
  have hS : va_S A s.heap s.heap [] := va_S.rf
  have hl : lv_has ls 4 [(0, .ref a0), (1, .ref a18), (2, .int p1)] := hl
  obtain ⟨Q, hQ⟩ : ∃ Q, Q = MQ below (va_Qv (fun (u9 : (Nat → Int32) × (Nat → Nat → Int32) × (Nat → Nat → Int64)) => True) (fun u9 t => va_P (dC, dI) vwCl [(a0, .inr (0, [.ref a1, .ref a2, .ref a3, .ref a4, .ref a5, .ref a6, .ref a7])), (a1, .inl (cI, 24, .inl xF0)), (a3, .inl (cI, 60, .inl (u9.2.1 0))), (a18, .inr (2, [.int i0, .int i1, .int i2, .int i3, .int i4, .int i5, .int i6, .int i7, .int i8, .ref a19, .ref a20, .ref a21, .ref a22, .ref a23])), (a19, .inr (3, [.int i9, .ref a24, .ref a25, .ref a26, .ref a27, .ref a28, .ref a29, .ref a30])), (a24, .inl (cI, 24, .inl xF16)), (a25, .inl (cI, 24, .inl xF17)), (a26, .inl (cI, 24, .inl xF18)), (a28, .inl (cI, 24, .inl xF20))] t.heap ∧ va_D A [(a0, .inr (0, [.ref a1, .ref a2, .ref a3, .ref a4, .ref a5, .ref a6, .ref a7])), (a1, .inl (cI, 24, .inl xF0)), (a3, .inl (cI, 60, .inl (u9.2.1 0))), (a18, .inr (2, [.int i0, .int i1, .int i2, .int i3, .int i4, .int i5, .int i6, .int i7, .int i8, .ref a19, .ref a20, .ref a21, .ref a22, .ref a23])), (a19, .inr (3, [.int i9, .ref a24, .ref a25, .ref a26, .ref a27, .ref a28, .ref a29, .ref a30])), (a24, .inl (cI, 24, .inl xF16)), (a25, .inl (cI, 24, .inl xF17)), (a26, .inl (cI, 24, .inl xF18)), (a28, .inl (cI, 24, .inl xF20))]) A) ([.ref a0, .ref a18, .int p1] : List Value).toArray s 0 0 A := ⟨_, rfl⟩
  rw [← hQ]
  have k0 : (0 : Int32).toInt = 0 := by decide
  have k1 : (1 : Int32).toInt = 1 := by decide
  refine lv_aload_n hx hb dX0_fillProfile_0 rfl (lv_at hl 0 rfl) ?_
  refine lv_aload_n hx hb dX0_fillProfile_1 rfl (lv_at hl 1 rfl) ?_
  have hPc := hP.sub (ws' := [(a0, .inr (0, [.ref a1, .ref a2, .ref a3, .ref a4, .ref a5, .ref a6, .ref a7])), (a3, .inl (cI, 60, .inl xF2)), (a18, .inr (2, [.int i0, .int i1, .int i2, .int i3, .int i4, .int i5, .int i6, .int i7, .int i8, .ref a19, .ref a20, .ref a21, .ref a22, .ref a23]))]) [0, 2, 3] rfl
  have hDc := hD.sub (ws' := [(a0, .inr (0, [.ref a1, .ref a2, .ref a3, .ref a4, .ref a5, .ref a6, .ref a7])), (a3, .inl (cI, 60, .inl xF2)), (a18, .inr (2, [.int i0, .int i1, .int i2, .int i3, .int i4, .int i5, .int i6, .int i7, .int i8, .ref a19, .ref a20, .ref a21, .ref a22, .ref a23]))]) [0, 2, 3] (by decide) rfl
  have hFc := va_free (wc := [(a0, .inr (0, [.ref a1, .ref a2, .ref a3, .ref a4, .ref a5, .ref a6, .ref a7])), (a3, .inl (cI, 60, .inl xF2)), (a18, .inr (2, [.int i0, .int i1, .int i2, .int i3, .int i4, .int i5, .int i6, .int i7, .int i8, .ref a19, .ref a20, .ref a21, .ref a22, .ref a23]))]) hD hS hA [0, 2, 3] rfl
  refine va_callv (va_runV (As := [.ref a18]) (rest := []) ⟨hx, hb, hml, hown, hwd⟩ (s_X0_clearProfile l dC dI cI cZ cB cJ cM cG a0 a1 a2 a3 a4 a5 a6 a7 a18 a19 a20 a21 a22 a23 i0 i1 i2 i3 i4 i5 i6 i7 i8 xF2 s.heap.size (show (0 : Int) ≤ i0.toInt ∧ i0.toInt ≤ 60 from ⟨by omega, by omega⟩) (show (0 : Int) ≤ i3.toInt ∧ i3.toInt ≤ 6 from ⟨by omega, by omega⟩) (show (0 : Int) ≤ i5.toInt ∧ i5.toInt ≤ 1 from ⟨by omega, by omega⟩) (show (0 : Int) ≤ i8.toInt ∧ i8.toInt ≤ 1 from ⟨by omega, by omega⟩)) (cwV 1 hwd (gV kr20_7 kr20_8 kr20_9 kr1_23 kr20_10) rfl rfl rfl (by decide +kernel) ⟨Nat.le_of_ble_eq_true rfl, Nat.le_of_ble_eq_true rfl⟩) (kPreV hPc hK hDc (ci := 0) (q0 := 0) rfl rfl) rfl rfl hl.1 rfl (lv_room (Nat.le_of_ble_eq_true rfl)) dX0_fillProfile_2 ⟨Nat.le_of_ble_eq_true rfl, Nat.le_of_ble_eq_true rfl⟩) hS (fun q _ h => hFc q h) hFc (fun u2 t H1 locs ht9 hvm hw hB hz1 hk1 hS => ?_)
  obtain ⟨u3, U3, V3⟩ := u2
  obtain ⟨hP1, hD1⟩ := hB
  rw [ht9] at hP1
  obtain ⟨hP, hD⟩ := va_join (wr := [(a1, .inl (cI, 24, .inl xF0)), (a19, .inr (3, [.int i9, .ref a24, .ref a25, .ref a26, .ref a27, .ref a28, .ref a29, .ref a30])), (a24, .inl (cI, 24, .inl xF16)), (a25, .inl (cI, 24, .inl xF17)), (a26, .inl (cI, 24, .inl xF18)), (a28, .inl (cI, 24, .inl xF20))]) (w1 := [(a0, .inr (0, [.ref a1, .ref a2, .ref a3, .ref a4, .ref a5, .ref a6, .ref a7])), (a3, .inl (cI, 60, .inl (U3 0))), (a18, .inr (2, [.int i0, .int i1, .int i2, .int i3, .int i4, .int i5, .int i6, .int i7, .int i8, .ref a19, .ref a20, .ref a21, .ref a22, .ref a23]))]) hP hD [0, 2, 3] [1, 4, 5, 6, 7, 8] rfl rfl (by decide) (by decide) hk1 hFc hP1 hD1
  generalize H1 = H at hP hS ⊢
  have hP : va_P (dC, dI) vwCl [(a1, .inl (cI, 24, .inl xF0)), (a19, .inr (3, [.int i9, .ref a24, .ref a25, .ref a26, .ref a27, .ref a28, .ref a29, .ref a30])), (a24, .inl (cI, 24, .inl xF16)), (a25, .inl (cI, 24, .inl xF17)), (a26, .inl (cI, 24, .inl xF18)), (a28, .inl (cI, 24, .inl xF20)), (a0, .inr (0, [.ref a1, .ref a2, .ref a3, .ref a4, .ref a5, .ref a6, .ref a7])), (a3, .inl (cI, 60, .inl (U3 0))), (a18, .inr (2, [.int i0, .int i1, .int i2, .int i3, .int i4, .int i5, .int i6, .int i7, .int i8, .ref a19, .ref a20, .ref a21, .ref a22, .ref a23]))] H := hP
  have hD : va_D A [(a1, .inl (cI, 24, .inl xF0)), (a19, .inr (3, [.int i9, .ref a24, .ref a25, .ref a26, .ref a27, .ref a28, .ref a29, .ref a30])), (a24, .inl (cI, 24, .inl xF16)), (a25, .inl (cI, 24, .inl xF17)), (a26, .inl (cI, 24, .inl xF18)), (a28, .inl (cI, 24, .inl xF20)), (a0, .inr (0, [.ref a1, .ref a2, .ref a3, .ref a4, .ref a5, .ref a6, .ref a7])), (a3, .inl (cI, 60, .inl (U3 0))), (a18, .inr (2, [.int i0, .int i1, .int i2, .int i3, .int i4, .int i5, .int i6, .int i7, .int i8, .ref a19, .ref a20, .ref a21, .ref a22, .ref a23]))] := hD
  refine lv_iconst (v := 0) hx hb dX0_fillProfile_5 (by decide) ?_
  refine lv_istore_n (lv' := [(3, .int 0), (0, .ref a0), (1, .ref a18), (2, .int p1)]) hx hb dX0_fillProfile_6 rfl hl (by decide) rfl (fun ls hl => ?_)
  have lp1 : ∀ (d : Nat), ∀ (H : Heap) (locs : List Loc) (ls : Array Slot) (w3_1 : Int32) (g1_1 : Nat → Int32), ((0 : Int) ≤ w3_1.toInt ∧ w3_1.toInt ≤ 24) → (24 - w3_1.toInt).toNat < d → va_P (dC, dI) vwCl [(a1, .inl (cI, 24, .inl xF0)), (a19, .inr (3, [.int i9, .ref a24, .ref a25, .ref a26, .ref a27, .ref a28, .ref a29, .ref a30])), (a24, .inl (cI, 24, .inl xF16)), (a25, .inl (cI, 24, .inl xF17)), (a26, .inl (cI, 24, .inl xF18)), (a28, .inl (cI, 24, .inl xF20)), (a0, .inr (0, [.ref a1, .ref a2, .ref a3, .ref a4, .ref a5, .ref a6, .ref a7])), (a3, .inl (cI, 60, .inl g1_1)), (a18, .inr (2, [.int i0, .int i1, .int i2, .int i3, .int i4, .int i5, .int i6, .int i7, .int i8, .ref a19, .ref a20, .ref a21, .ref a22, .ref a23]))] H → va_D A [(a1, .inl (cI, 24, .inl xF0)), (a19, .inr (3, [.int i9, .ref a24, .ref a25, .ref a26, .ref a27, .ref a28, .ref a29, .ref a30])), (a24, .inl (cI, 24, .inl xF16)), (a25, .inl (cI, 24, .inl xF17)), (a26, .inl (cI, 24, .inl xF18)), (a28, .inl (cI, 24, .inl xF20)), (a0, .inr (0, [.ref a1, .ref a2, .ref a3, .ref a4, .ref a5, .ref a6, .ref a7])), (a3, .inl (cI, 60, .inl g1_1)), (a18, .inr (2, [.int i0, .int i1, .int i2, .int i3, .int i4, .int i5, .int i6, .int i7, .int i8, .ref a19, .ref a20, .ref a21, .ref a22, .ref a23]))] → va_S A s.heap H locs → lv_has ls 4 [(0, .ref a0), (1, .ref a18), (2, .int p1), (3, .int w3_1)] → W p l e ({ frames := 2, cells := 0, slots := 0, locals := 52 } : Room) s m ([.ref a0, .ref a18, .int p1] : List Value).toArray below meth c H locs 0 0 Q (F0 m 7 ls []) := by
    intro d
    induction d with
    | zero =>
      intro H locs ls w3_1 g1_1 hr_w3_1 hm hP hD hS hl
      omega
    | succ d ih1 =>
      intro H locs ls w3_1 g1_1 hr_w3_1 hm hP hD hS hl
      refine lv_iload_n hx hb dX0_fillProfile_7 rfl (lv_at hl 3 rfl) ?_
      refine lv_aload_n hx hb dX0_fillProfile_8 rfl (lv_at hl 1 rfl) ?_
      refine va_get (D := (dC, dI)) (ci := 2) (v := .ref a19) (C := RX2) (T := TX2) (N := 14) hx hb hwd inlX2 hown hK hP 8 rfl rfl 9 (by decide) (hwd _ kr18_9) (fun _ h9 => h9) rfl dX0_fillProfile_9 ?_
      refine va_get (D := (dC, dI)) (ci := 3) (v := .int i9) (C := RX3) (T := TX3) (N := 8) hx hb hwd inlX3 hown hK hP 1 rfl rfl 0 (by decide) (hwd _ kr18_21) (fun _ h9 => h9) rfl dX0_fillProfile_12 ?_
      refine lv_icmp_ge (tgt := 52) hx hb dX0_fillProfile_15 (by decide) (fun c79 => ?_) (fun c79 => ?_)
      · rw [ki_le] at c79
        have hP9 := hP.sub (ws' := [(a0, .inr (0, [.ref a1, .ref a2, .ref a3, .ref a4, .ref a5, .ref a6, .ref a7])), (a1, .inl (cI, 24, .inl xF0)), (a3, .inl (cI, 60, .inl g1_1)), (a18, .inr (2, [.int i0, .int i1, .int i2, .int i3, .int i4, .int i5, .int i6, .int i7, .int i8, .ref a19, .ref a20, .ref a21, .ref a22, .ref a23])), (a19, .inr (3, [.int i9, .ref a24, .ref a25, .ref a26, .ref a27, .ref a28, .ref a29, .ref a30])), (a24, .inl (cI, 24, .inl xF16)), (a25, .inl (cI, 24, .inl xF17)), (a26, .inl (cI, 24, .inl xF18)), (a28, .inl (cI, 24, .inl xF20))]) [6, 0, 7, 8, 1, 2, 3, 4, 5] rfl
        have hD9 := hD.sub (ws' := [(a0, .inr (0, [.ref a1, .ref a2, .ref a3, .ref a4, .ref a5, .ref a6, .ref a7])), (a1, .inl (cI, 24, .inl xF0)), (a3, .inl (cI, 60, .inl g1_1)), (a18, .inr (2, [.int i0, .int i1, .int i2, .int i3, .int i4, .int i5, .int i6, .int i7, .int i8, .ref a19, .ref a20, .ref a21, .ref a22, .ref a23])), (a19, .inr (3, [.int i9, .ref a24, .ref a25, .ref a26, .ref a27, .ref a28, .ref a29, .ref a30])), (a24, .inl (cI, 24, .inl xF16)), (a25, .inl (cI, 24, .inl xF17)), (a26, .inl (cI, 24, .inl xF18)), (a28, .inl (cI, 24, .inl xF20))]) [6, 0, 7, 8, 1, 2, 3, 4, 5] (by decide) rfl
        rw [hQ]
        exact W.vret hx hb hr (fun t ht hW => ⟨⟨(pickG 0 [], pickG (fun _ => 0) [g1_1], pickG (fun _ => 0) []), rfl, trivial, (by rw [ht]; exact hP9), hD9⟩, hS.F ht⟩) hS.2.2 dX0_fillProfile_52
      · rw [ki_le] at c79
        refine lv_aload_n hx hb dX0_fillProfile_18 rfl (lv_at hl 1 rfl) ?_
        refine va_get (D := (dC, dI)) (ci := 2) (v := .ref a19) (C := RX2) (T := TX2) (N := 14) hx hb hwd inlX2 hown hK hP 8 rfl rfl 9 (by decide) (hwd _ kr18_9) (fun _ h9 => h9) rfl dX0_fillProfile_19 ?_
        refine va_get (D := (dC, dI)) (ci := 3) (v := .ref a24) (C := RX3) (T := TX3) (N := 8) hx hb hwd inlX3 hown hK hP 1 rfl rfl 1 (by decide) (hwd _ kr20_6) (fun _ h9 => h9) rfl dX0_fillProfile_22 ?_
        refine lv_iload_n hx hb dX0_fillProfile_25 rfl (lv_at hl 3 rfl) ?_
        have h80 : vp_in w3_1 24 := (vp_of (by omega) (by omega))
        refine va_iald hx hb hK hP 2 0 rfl rfl h80 dX0_fillProfile_26 ?_
        refine lv_topi (fun x81 ex81 => ?_)
        refine lv_iload_n hx hb dX0_fillProfile_27 rfl (lv_at hl 2 rfl) ?_
        refine lv_icmp_ne (tgt := 46) hx hb dX0_fillProfile_28 (by decide) (fun c82 => ?_) (fun c82 => ?_)
        · rw [ki_eq] at c82
          obtain ⟨x83, ex83⟩ : ∃ y : Int32, y = w3_1 + 1 := ⟨_, rfl⟩
          refine lv_iinc (v := x83) (lv' := [(3, .int x83), (0, .ref a0), (1, .ref a18), (2, .int p1)]) hx hb dX0_fillProfile_46 hl (k := 3) rfl (by rw [ex83]; rfl) (by decide) rfl (fun ls hl => ?_)
          have tx83 := ia_add (a := w3_1) (b := (1 : Int32)) (by omega) (by omega)
          rw [← ex83] at tx83
          refine lv_goto (tgt := 7) hx hb dX0_fillProfile_49 (by decide) ?_
          exact ih1 _ _ ls x83 g1_1 (show (0 : Int) ≤ x83.toInt ∧ x83.toInt ≤ 24 from ⟨by omega, by omega⟩) (by omega) (hP.sub (ws' := [(a1, .inl (cI, 24, .inl xF0)), (a19, .inr (3, [.int i9, .ref a24, .ref a25, .ref a26, .ref a27, .ref a28, .ref a29, .ref a30])), (a24, .inl (cI, 24, .inl xF16)), (a25, .inl (cI, 24, .inl xF17)), (a26, .inl (cI, 24, .inl xF18)), (a28, .inl (cI, 24, .inl xF20)), (a0, .inr (0, [.ref a1, .ref a2, .ref a3, .ref a4, .ref a5, .ref a6, .ref a7])), (a3, .inl (cI, 60, .inl g1_1)), (a18, .inr (2, [.int i0, .int i1, .int i2, .int i3, .int i4, .int i5, .int i6, .int i7, .int i8, .ref a19, .ref a20, .ref a21, .ref a22, .ref a23]))]) [0, 1, 2, 3, 4, 5, 6, 7, 8] rfl) (hD.sub (ws' := [(a1, .inl (cI, 24, .inl xF0)), (a19, .inr (3, [.int i9, .ref a24, .ref a25, .ref a26, .ref a27, .ref a28, .ref a29, .ref a30])), (a24, .inl (cI, 24, .inl xF16)), (a25, .inl (cI, 24, .inl xF17)), (a26, .inl (cI, 24, .inl xF18)), (a28, .inl (cI, 24, .inl xF20)), (a0, .inr (0, [.ref a1, .ref a2, .ref a3, .ref a4, .ref a5, .ref a6, .ref a7])), (a3, .inl (cI, 60, .inl g1_1)), (a18, .inr (2, [.int i0, .int i1, .int i2, .int i3, .int i4, .int i5, .int i6, .int i7, .int i8, .ref a19, .ref a20, .ref a21, .ref a22, .ref a23]))]) [0, 1, 2, 3, 4, 5, 6, 7, 8] (by decide) rfl) hS (lv_sub hl [1, 2, 3, 0] rfl)
        · rw [ki_eq] at c82
          refine lv_aload_n hx hb dX0_fillProfile_31 rfl (lv_at hl 0 rfl) ?_
          refine va_get (D := (dC, dI)) (ci := 0) (v := .ref a1) (C := RX0) (T := TX0) (N := 7) hx hb hwd inlX0 hown hK hP 6 rfl rfl 0 (by decide) (hwd _ kr3_17) (fun _ h9 => h9) rfl dX0_fillProfile_32 ?_
          refine lv_iload_n hx hb dX0_fillProfile_35 rfl (lv_at hl 3 rfl) ?_
          have h84 : vp_in w3_1 24 := (vp_of (by omega) (by omega))
          refine va_iald hx hb hK hP 0 0 rfl rfl h84 dX0_fillProfile_36 ?_
          refine lv_topi (fun x85 ex85 => ?_)
          refine lv_if_le (tgt := 46) hx hb dX0_fillProfile_37 (by decide) (fun c86 => ?_) (fun c86 => ?_)
          · rw [ki_le] at c86
            obtain ⟨x87, ex87⟩ : ∃ y : Int32, y = w3_1 + 1 := ⟨_, rfl⟩
            refine lv_iinc (v := x87) (lv' := [(3, .int x87), (0, .ref a0), (1, .ref a18), (2, .int p1)]) hx hb dX0_fillProfile_46 hl (k := 3) rfl (by rw [ex87]; rfl) (by decide) rfl (fun ls hl => ?_)
            have tx87 := ia_add (a := w3_1) (b := (1 : Int32)) (by omega) (by omega)
            rw [← ex87] at tx87
            refine lv_goto (tgt := 7) hx hb dX0_fillProfile_49 (by decide) ?_
            exact ih1 _ _ ls x87 g1_1 (show (0 : Int) ≤ x87.toInt ∧ x87.toInt ≤ 24 from ⟨by omega, by omega⟩) (by omega) (hP.sub (ws' := [(a1, .inl (cI, 24, .inl xF0)), (a19, .inr (3, [.int i9, .ref a24, .ref a25, .ref a26, .ref a27, .ref a28, .ref a29, .ref a30])), (a24, .inl (cI, 24, .inl xF16)), (a25, .inl (cI, 24, .inl xF17)), (a26, .inl (cI, 24, .inl xF18)), (a28, .inl (cI, 24, .inl xF20)), (a0, .inr (0, [.ref a1, .ref a2, .ref a3, .ref a4, .ref a5, .ref a6, .ref a7])), (a3, .inl (cI, 60, .inl g1_1)), (a18, .inr (2, [.int i0, .int i1, .int i2, .int i3, .int i4, .int i5, .int i6, .int i7, .int i8, .ref a19, .ref a20, .ref a21, .ref a22, .ref a23]))]) [0, 1, 2, 3, 4, 5, 6, 7, 8] rfl) (hD.sub (ws' := [(a1, .inl (cI, 24, .inl xF0)), (a19, .inr (3, [.int i9, .ref a24, .ref a25, .ref a26, .ref a27, .ref a28, .ref a29, .ref a30])), (a24, .inl (cI, 24, .inl xF16)), (a25, .inl (cI, 24, .inl xF17)), (a26, .inl (cI, 24, .inl xF18)), (a28, .inl (cI, 24, .inl xF20)), (a0, .inr (0, [.ref a1, .ref a2, .ref a3, .ref a4, .ref a5, .ref a6, .ref a7])), (a3, .inl (cI, 60, .inl g1_1)), (a18, .inr (2, [.int i0, .int i1, .int i2, .int i3, .int i4, .int i5, .int i6, .int i7, .int i8, .ref a19, .ref a20, .ref a21, .ref a22, .ref a23]))]) [0, 1, 2, 3, 4, 5, 6, 7, 8] (by decide) rfl) hS (lv_sub hl [1, 2, 3, 0] rfl)
          · rw [ki_le] at c86
            refine lv_aload_n hx hb dX0_fillProfile_40 rfl (lv_at hl 0 rfl) ?_
            refine lv_aload_n hx hb dX0_fillProfile_41 rfl (lv_at hl 1 rfl) ?_
            refine lv_iload_n hx hb dX0_fillProfile_42 rfl (lv_at hl 3 rfl) ?_
            have hPc := hP.sub (ws' := [(a0, .inr (0, [.ref a1, .ref a2, .ref a3, .ref a4, .ref a5, .ref a6, .ref a7])), (a1, .inl (cI, 24, .inl xF0)), (a3, .inl (cI, 60, .inl g1_1)), (a18, .inr (2, [.int i0, .int i1, .int i2, .int i3, .int i4, .int i5, .int i6, .int i7, .int i8, .ref a19, .ref a20, .ref a21, .ref a22, .ref a23])), (a19, .inr (3, [.int i9, .ref a24, .ref a25, .ref a26, .ref a27, .ref a28, .ref a29, .ref a30])), (a25, .inl (cI, 24, .inl xF17)), (a26, .inl (cI, 24, .inl xF18)), (a28, .inl (cI, 24, .inl xF20))]) [6, 0, 7, 8, 1, 3, 4, 5] rfl
            have hDc := hD.sub (ws' := [(a0, .inr (0, [.ref a1, .ref a2, .ref a3, .ref a4, .ref a5, .ref a6, .ref a7])), (a1, .inl (cI, 24, .inl xF0)), (a3, .inl (cI, 60, .inl g1_1)), (a18, .inr (2, [.int i0, .int i1, .int i2, .int i3, .int i4, .int i5, .int i6, .int i7, .int i8, .ref a19, .ref a20, .ref a21, .ref a22, .ref a23])), (a19, .inr (3, [.int i9, .ref a24, .ref a25, .ref a26, .ref a27, .ref a28, .ref a29, .ref a30])), (a25, .inl (cI, 24, .inl xF17)), (a26, .inl (cI, 24, .inl xF18)), (a28, .inl (cI, 24, .inl xF20))]) [6, 0, 7, 8, 1, 3, 4, 5] (by decide) rfl
            have hFc := va_free (wc := [(a0, .inr (0, [.ref a1, .ref a2, .ref a3, .ref a4, .ref a5, .ref a6, .ref a7])), (a1, .inl (cI, 24, .inl xF0)), (a3, .inl (cI, 60, .inl g1_1)), (a18, .inr (2, [.int i0, .int i1, .int i2, .int i3, .int i4, .int i5, .int i6, .int i7, .int i8, .ref a19, .ref a20, .ref a21, .ref a22, .ref a23])), (a19, .inr (3, [.int i9, .ref a24, .ref a25, .ref a26, .ref a27, .ref a28, .ref a29, .ref a30])), (a25, .inl (cI, 24, .inl xF17)), (a26, .inl (cI, 24, .inl xF18)), (a28, .inl (cI, 24, .inl xF20))]) hD hS hA [6, 0, 7, 8, 1, 3, 4, 5] rfl
            refine va_callv (va_runV (As := [.ref a18, .int w3_1]) (rest := []) ⟨hx, hb, hml, hown, hwd⟩ (s_X0_raiseProfile l dC dI cI cZ cB cJ cM cG a0 a1 a2 a3 a4 a5 a6 a7 a18 a19 a20 a21 a22 a23 a24 a25 a26 a27 a28 a29 a30 i0 i1 i2 i3 i4 i5 i6 i7 i8 i9 xF0 g1_1 xF17 xF18 xF20 w3_1 H.size (show (0 : Int) ≤ i0.toInt ∧ i0.toInt ≤ 60 from ⟨by omega, by omega⟩) (show (0 : Int) ≤ i3.toInt ∧ i3.toInt ≤ 6 from ⟨by omega, by omega⟩) (show (0 : Int) ≤ i5.toInt ∧ i5.toInt ≤ 1 from ⟨by omega, by omega⟩) (show (0 : Int) ≤ i8.toInt ∧ i8.toInt ≤ 1 from ⟨by omega, by omega⟩) (show (0 : Int) ≤ i9.toInt ∧ i9.toInt ≤ 24 from ⟨by omega, by omega⟩) (show (0 : Int) ≤ w3_1.toInt ∧ w3_1.toInt ≤ 23 from ⟨by omega, by omega⟩)) (cwV 2 hwd (gV kr20_12 kr20_13 kr20_14 kr1_23 kr20_15) rfl rfl rfl (by decide +kernel) ⟨Nat.le_of_ble_eq_true rfl, Nat.le_of_ble_eq_true rfl⟩) (kPreV hPc hK hDc (ci := 0) (q0 := 0) rfl rfl) rfl rfl hl.1 rfl (lv_room (Nat.le_of_ble_eq_true rfl)) dX0_fillProfile_43 ⟨Nat.le_of_ble_eq_true rfl, Nat.le_of_ble_eq_true rfl⟩) hS (fun q _ h => hFc q h) hFc (fun u89 t H1 locs ht9 hvm hw hB hz1 hk1 hS => ?_)
            obtain ⟨u90, U90, V90⟩ := u89
            obtain ⟨hP1, hD1⟩ := hB
            rw [ht9] at hP1
            obtain ⟨hP, hD⟩ := va_join (wr := [(a24, .inl (cI, 24, .inl xF16))]) (w1 := [(a0, .inr (0, [.ref a1, .ref a2, .ref a3, .ref a4, .ref a5, .ref a6, .ref a7])), (a1, .inl (cI, 24, .inl xF0)), (a3, .inl (cI, 60, .inl (U90 0))), (a18, .inr (2, [.int i0, .int i1, .int i2, .int i3, .int i4, .int i5, .int i6, .int i7, .int i8, .ref a19, .ref a20, .ref a21, .ref a22, .ref a23])), (a19, .inr (3, [.int i9, .ref a24, .ref a25, .ref a26, .ref a27, .ref a28, .ref a29, .ref a30])), (a25, .inl (cI, 24, .inl xF17)), (a26, .inl (cI, 24, .inl xF18)), (a28, .inl (cI, 24, .inl xF20))]) hP hD [6, 0, 7, 8, 1, 3, 4, 5] [2] rfl rfl (by decide) (by decide) hk1 hFc hP1 hD1
            generalize H1 = H at hP hS ⊢
            have hP : va_P (dC, dI) vwCl [(a24, .inl (cI, 24, .inl xF16)), (a0, .inr (0, [.ref a1, .ref a2, .ref a3, .ref a4, .ref a5, .ref a6, .ref a7])), (a1, .inl (cI, 24, .inl xF0)), (a3, .inl (cI, 60, .inl (U90 0))), (a18, .inr (2, [.int i0, .int i1, .int i2, .int i3, .int i4, .int i5, .int i6, .int i7, .int i8, .ref a19, .ref a20, .ref a21, .ref a22, .ref a23])), (a19, .inr (3, [.int i9, .ref a24, .ref a25, .ref a26, .ref a27, .ref a28, .ref a29, .ref a30])), (a25, .inl (cI, 24, .inl xF17)), (a26, .inl (cI, 24, .inl xF18)), (a28, .inl (cI, 24, .inl xF20))] H := hP
            have hD : va_D A [(a24, .inl (cI, 24, .inl xF16)), (a0, .inr (0, [.ref a1, .ref a2, .ref a3, .ref a4, .ref a5, .ref a6, .ref a7])), (a1, .inl (cI, 24, .inl xF0)), (a3, .inl (cI, 60, .inl (U90 0))), (a18, .inr (2, [.int i0, .int i1, .int i2, .int i3, .int i4, .int i5, .int i6, .int i7, .int i8, .ref a19, .ref a20, .ref a21, .ref a22, .ref a23])), (a19, .inr (3, [.int i9, .ref a24, .ref a25, .ref a26, .ref a27, .ref a28, .ref a29, .ref a30])), (a25, .inl (cI, 24, .inl xF17)), (a26, .inl (cI, 24, .inl xF18)), (a28, .inl (cI, 24, .inl xF20))] := hD
            obtain ⟨x91, ex91⟩ : ∃ y : Int32, y = w3_1 + 1 := ⟨_, rfl⟩
            refine lv_iinc (v := x91) (lv' := [(3, .int x91), (0, .ref a0), (1, .ref a18), (2, .int p1)]) hx hb dX0_fillProfile_46 hl (k := 3) rfl (by rw [ex91]; rfl) (by decide) rfl (fun ls hl => ?_)
            have tx91 := ia_add (a := w3_1) (b := (1 : Int32)) (by omega) (by omega)
            rw [← ex91] at tx91
            refine lv_goto (tgt := 7) hx hb dX0_fillProfile_49 (by decide) ?_
            exact ih1 _ _ ls x91 (U90 0) (show (0 : Int) ≤ x91.toInt ∧ x91.toInt ≤ 24 from ⟨by omega, by omega⟩) (by omega) (hP.sub (ws' := [(a1, .inl (cI, 24, .inl xF0)), (a19, .inr (3, [.int i9, .ref a24, .ref a25, .ref a26, .ref a27, .ref a28, .ref a29, .ref a30])), (a24, .inl (cI, 24, .inl xF16)), (a25, .inl (cI, 24, .inl xF17)), (a26, .inl (cI, 24, .inl xF18)), (a28, .inl (cI, 24, .inl xF20)), (a0, .inr (0, [.ref a1, .ref a2, .ref a3, .ref a4, .ref a5, .ref a6, .ref a7])), (a3, .inl (cI, 60, .inl (U90 0))), (a18, .inr (2, [.int i0, .int i1, .int i2, .int i3, .int i4, .int i5, .int i6, .int i7, .int i8, .ref a19, .ref a20, .ref a21, .ref a22, .ref a23]))]) [2, 5, 0, 6, 7, 8, 1, 3, 4] rfl) (hD.sub (ws' := [(a1, .inl (cI, 24, .inl xF0)), (a19, .inr (3, [.int i9, .ref a24, .ref a25, .ref a26, .ref a27, .ref a28, .ref a29, .ref a30])), (a24, .inl (cI, 24, .inl xF16)), (a25, .inl (cI, 24, .inl xF17)), (a26, .inl (cI, 24, .inl xF18)), (a28, .inl (cI, 24, .inl xF20)), (a0, .inr (0, [.ref a1, .ref a2, .ref a3, .ref a4, .ref a5, .ref a6, .ref a7])), (a3, .inl (cI, 60, .inl (U90 0))), (a18, .inr (2, [.int i0, .int i1, .int i2, .int i3, .int i4, .int i5, .int i6, .int i7, .int i8, .ref a19, .ref a20, .ref a21, .ref a22, .ref a23]))]) [2, 5, 0, 6, 7, 8, 1, 3, 4] (by decide) rfl) hS (lv_sub hl [1, 2, 3, 0] rfl)
  exact lp1 _ _ _ ls (0) (U3 0) (show (0 : Int) ≤ (0 : Int32).toInt ∧ (0 : Int32).toInt ≤ 24 from ⟨by omega, by omega⟩) (Nat.lt_succ_self _) (hP.sub (ws' := [(a1, .inl (cI, 24, .inl xF0)), (a19, .inr (3, [.int i9, .ref a24, .ref a25, .ref a26, .ref a27, .ref a28, .ref a29, .ref a30])), (a24, .inl (cI, 24, .inl xF16)), (a25, .inl (cI, 24, .inl xF17)), (a26, .inl (cI, 24, .inl xF18)), (a28, .inl (cI, 24, .inl xF20)), (a0, .inr (0, [.ref a1, .ref a2, .ref a3, .ref a4, .ref a5, .ref a6, .ref a7])), (a3, .inl (cI, 60, .inl (U3 0))), (a18, .inr (2, [.int i0, .int i1, .int i2, .int i3, .int i4, .int i5, .int i6, .int i7, .int i8, .ref a19, .ref a20, .ref a21, .ref a22, .ref a23]))]) [0, 1, 2, 3, 4, 5, 6, 7, 8] rfl) (hD.sub (ws' := [(a1, .inl (cI, 24, .inl xF0)), (a19, .inr (3, [.int i9, .ref a24, .ref a25, .ref a26, .ref a27, .ref a28, .ref a29, .ref a30])), (a24, .inl (cI, 24, .inl xF16)), (a25, .inl (cI, 24, .inl xF17)), (a26, .inl (cI, 24, .inl xF18)), (a28, .inl (cI, 24, .inl xF20)), (a0, .inr (0, [.ref a1, .ref a2, .ref a3, .ref a4, .ref a5, .ref a6, .ref a7])), (a3, .inl (cI, 60, .inl (U3 0))), (a18, .inr (2, [.int i0, .int i1, .int i2, .int i3, .int i4, .int i5, .int i6, .int i7, .int i8, .ref a19, .ref a20, .ref a21, .ref a22, .ref a23]))]) [0, 1, 2, 3, 4, 5, 6, 7, 8] (by decide) rfl) hS (lv_sub hl [1, 2, 3, 0] rfl)
theorem dX0_fillProfileAsNow_0 : decode cX0_fillProfileAsNow 0 = .ok (.aload_n 0, 1) := by decide +kernel
theorem dX0_fillProfileAsNow_1 : decode cX0_fillProfileAsNow 1 = .ok (.aload_n 1, 1) := by decide +kernel
theorem dX0_fillProfileAsNow_2 : decode cX0_fillProfileAsNow 2 = .ok (.getfield 48, 3) := by decide +kernel
theorem dX0_fillProfileAsNow_5 : decode cX0_fillProfileAsNow 5 = .ok (.aload_n 1, 1) := by decide +kernel
theorem dX0_fillProfileAsNow_6 : decode cX0_fillProfileAsNow 6 = .ok (.getfield 48, 3) := by decide +kernel
theorem dX0_fillProfileAsNow_9 : decode cX0_fillProfileAsNow 9 = .ok (.getfield 54, 3) := by decide +kernel
theorem dX0_fillProfileAsNow_12 : decode cX0_fillProfileAsNow 12 = .ok (.invokevirtual 55, 3) := by decide +kernel
theorem dX0_fillProfileAsNow_15 : decode cX0_fillProfileAsNow 15 = .ok (.aload_n 0, 1) := by decide +kernel
theorem dX0_fillProfileAsNow_16 : decode cX0_fillProfileAsNow 16 = .ok (.aload_n 1, 1) := by decide +kernel
theorem dX0_fillProfileAsNow_17 : decode cX0_fillProfileAsNow 17 = .ok (.iload_n 2, 1) := by decide +kernel
theorem dX0_fillProfileAsNow_18 : decode cX0_fillProfileAsNow 18 = .ok (.invokevirtual 59, 3) := by decide +kernel
theorem dX0_fillProfileAsNow_21 : decode cX0_fillProfileAsNow 21 = .ok (.return_, 1) := by decide +kernel
set_option maxHeartbeats 4000000 in
set_option maxRecDepth 100000 in
theorem s_X0_fillProfileAsNow (l : Launch) (dC : Nat → ClassId) (dI : Nat → Nat → Nat) (cI cZ cB cJ cM cG : ClassId) (a0 a1 a2 a3 a4 a5 a6 a7 a18 a19 a20 a21 a22 a23 a24 a25 a26 a27 a28 a29 a30 : Nat) (i0 i1 i2 i3 i4 i5 i6 i7 i8 i9 : Int32) (xF0 xF2 xF16 xF17 xF18 xF19 xF20 xF21 xF22 : Nat → Int32) (p1 : Int32) (sz : Nat) (p_0 : (0 : Int) ≤ i0.toInt ∧ i0.toInt ≤ 60) (p_1 : (0 : Int) ≤ i3.toInt ∧ i3.toInt ≤ 6) (p_2 : (0 : Int) ≤ i5.toInt ∧ i5.toInt ≤ 1) (p_3 : (0 : Int) ≤ i8.toInt ∧ i8.toInt ≤ 1) (p_4 : (0 : Int) ≤ i9.toInt ∧ i9.toInt ≤ 24) (p_5 : rng xF19 24 0 60) (p_6 : rng xF22 24 0 1) : Met l yX0_fillProfileAsNow (kw yX0_fillProfileAsNow cX0_fillProfileAsNow 3 none) ({ frames := 3, cells := 0, slots := 0, locals := 75 } : Room) (va_Pc [.ref a0, .ref a18, .int p1] (kPre dC dI [(cI, .int), (cZ, .boolean), (cB, .byte), (cJ, .long), (cM, .object RX2), (cG, .array .int)] [(a0, .inr (0, [.ref a1, .ref a2, .ref a3, .ref a4, .ref a5, .ref a6, .ref a7])), (a1, .inl (cI, 24, .inl xF0)), (a3, .inl (cI, 60, .inl xF2)), (a18, .inr (2, [.int i0, .int i1, .int i2, .int i3, .int i4, .int i5, .int i6, .int i7, .int i8, .ref a19, .ref a20, .ref a21, .ref a22, .ref a23])), (a19, .inr (3, [.int i9, .ref a24, .ref a25, .ref a26, .ref a27, .ref a28, .ref a29, .ref a30])), (a24, .inl (cI, 24, .inl xF16)), (a25, .inl (cI, 24, .inl xF17)), (a26, .inl (cI, 24, .inl xF18)), (a27, .inl (cI, 24, .inl xF19)), (a28, .inl (cI, 24, .inl xF20)), (a29, .inl (cI, 24, .inl xF21)), (a30, .inl (cZ, 24, .inl xF22))] sz)) (va_Qv (fun (u9 : (Nat → Int32) × (Nat → Nat → Int32) × (Nat → Nat → Int64)) => True) (fun u9 t => va_P (dC, dI) vwCl [(a0, .inr (0, [.ref a1, .ref a2, .ref a3, .ref a4, .ref a5, .ref a6, .ref a7])), (a1, .inl (cI, 24, .inl (u9.2.1 0))), (a3, .inl (cI, 60, .inl (u9.2.1 1))), (a18, .inr (2, [.int i0, .int i1, .int i2, .int i3, .int i4, .int i5, .int i6, .int i7, .int i8, .ref a19, .ref a20, .ref a21, .ref a22, .ref a23])), (a19, .inr (3, [.int i9, .ref a24, .ref a25, .ref a26, .ref a27, .ref a28, .ref a29, .ref a30])), (a24, .inl (cI, 24, .inl xF16)), (a25, .inl (cI, 24, .inl xF17)), (a26, .inl (cI, 24, .inl xF18)), (a27, .inl (cI, 24, .inl xF19)), (a28, .inl (cI, 24, .inl xF20)), (a29, .inl (cI, 24, .inl xF21)), (a30, .inl (cZ, 24, .inl xF22))] t.heap ∧ va_D (va_A [(a0, .inr (0, [.ref a1, .ref a2, .ref a3, .ref a4, .ref a5, .ref a6, .ref a7])), (a1, .inl (cI, 24, .inl xF0)), (a3, .inl (cI, 60, .inl xF2)), (a18, .inr (2, [.int i0, .int i1, .int i2, .int i3, .int i4, .int i5, .int i6, .int i7, .int i8, .ref a19, .ref a20, .ref a21, .ref a22, .ref a23])), (a19, .inr (3, [.int i9, .ref a24, .ref a25, .ref a26, .ref a27, .ref a28, .ref a29, .ref a30])), (a24, .inl (cI, 24, .inl xF16)), (a25, .inl (cI, 24, .inl xF17)), (a26, .inl (cI, 24, .inl xF18)), (a27, .inl (cI, 24, .inl xF19)), (a28, .inl (cI, 24, .inl xF20)), (a29, .inl (cI, 24, .inl xF21)), (a30, .inl (cZ, 24, .inl xF22))] sz) [(a0, .inr (0, [.ref a1, .ref a2, .ref a3, .ref a4, .ref a5, .ref a6, .ref a7])), (a1, .inl (cI, 24, .inl (u9.2.1 0))), (a3, .inl (cI, 60, .inl (u9.2.1 1))), (a18, .inr (2, [.int i0, .int i1, .int i2, .int i3, .int i4, .int i5, .int i6, .int i7, .int i8, .ref a19, .ref a20, .ref a21, .ref a22, .ref a23])), (a19, .inr (3, [.int i9, .ref a24, .ref a25, .ref a26, .ref a27, .ref a28, .ref a29, .ref a30])), (a24, .inl (cI, 24, .inl xF16)), (a25, .inl (cI, 24, .inl xF17)), (a26, .inl (cI, 24, .inl xF18)), (a27, .inl (cI, 24, .inl xF19)), (a28, .inl (cI, 24, .inl xF20)), (a29, .inl (cI, 24, .inl xF21)), (a30, .inl (cZ, 24, .inl xF22))]) (va_A [(a0, .inr (0, [.ref a1, .ref a2, .ref a3, .ref a4, .ref a5, .ref a6, .ref a7])), (a1, .inl (cI, 24, .inl xF0)), (a3, .inl (cI, 60, .inl xF2)), (a18, .inr (2, [.int i0, .int i1, .int i2, .int i3, .int i4, .int i5, .int i6, .int i7, .int i8, .ref a19, .ref a20, .ref a21, .ref a22, .ref a23])), (a19, .inr (3, [.int i9, .ref a24, .ref a25, .ref a26, .ref a27, .ref a28, .ref a29, .ref a30])), (a24, .inl (cI, 24, .inl xF16)), (a25, .inl (cI, 24, .inl xF17)), (a26, .inl (cI, 24, .inl xF18)), (a27, .inl (cI, 24, .inl xF19)), (a28, .inl (cI, 24, .inl xF20)), (a29, .inl (cI, 24, .inl xF21)), (a30, .inl (cZ, 24, .inl xF22))] sz)) 0 0 (va_A [(a0, .inr (0, [.ref a1, .ref a2, .ref a3, .ref a4, .ref a5, .ref a6, .ref a7])), (a1, .inl (cI, 24, .inl xF0)), (a3, .inl (cI, 60, .inl xF2)), (a18, .inr (2, [.int i0, .int i1, .int i2, .int i3, .int i4, .int i5, .int i6, .int i7, .int i8, .ref a19, .ref a20, .ref a21, .ref a22, .ref a23])), (a19, .inr (3, [.int i9, .ref a24, .ref a25, .ref a26, .ref a27, .ref a28, .ref a29, .ref a30])), (a24, .inl (cI, 24, .inl xF16)), (a25, .inl (cI, 24, .inl xF17)), (a26, .inl (cI, 24, .inl xF18)), (a27, .inl (cI, 24, .inl xF19)), (a28, .inl (cI, 24, .inl xF20)), (a29, .inl (cI, 24, .inl xF21)), (a30, .inl (cZ, 24, .inl xF22))] sz) := by
  refine kEnter (by decide) (Nat.le_of_ble_eq_true rfl) ?_
  intro p e s m below meth c ls hx hb hr hml hown hlocks hin hwd hsz hP hK hD hl
  subst hsz
  generalize hAe : va_A [(a0, .inr (0, [.ref a1, .ref a2, .ref a3, .ref a4, .ref a5, .ref a6, .ref a7])), (a1, .inl (cI, 24, .inl xF0)), (a3, .inl (cI, 60, .inl xF2)), (a18, .inr (2, [.int i0, .int i1, .int i2, .int i3, .int i4, .int i5, .int i6, .int i7, .int i8, .ref a19, .ref a20, .ref a21, .ref a22, .ref a23])), (a19, .inr (3, [.int i9, .ref a24, .ref a25, .ref a26, .ref a27, .ref a28, .ref a29, .ref a30])), (a24, .inl (cI, 24, .inl xF16)), (a25, .inl (cI, 24, .inl xF17)), (a26, .inl (cI, 24, .inl xF18)), (a27, .inl (cI, 24, .inl xF19)), (a28, .inl (cI, 24, .inl xF20)), (a29, .inl (cI, 24, .inl xF21)), (a30, .inl (cZ, 24, .inl xF22))] s.heap.size = A at hD ⊢
  have hA : ∀ q : Nat, s.heap.size ≤ q → A q := fun q h => by rw [← hAe]; exact Or.inr h
  have hS : va_S A s.heap s.heap [] := va_S.rf
  have hl : lv_has ls 3 [(0, .ref a0), (1, .ref a18), (2, .int p1)] := hl
  obtain ⟨Q, hQ⟩ : ∃ Q, Q = MQ below (va_Qv (fun (u9 : (Nat → Int32) × (Nat → Nat → Int32) × (Nat → Nat → Int64)) => True) (fun u9 t => va_P (dC, dI) vwCl [(a0, .inr (0, [.ref a1, .ref a2, .ref a3, .ref a4, .ref a5, .ref a6, .ref a7])), (a1, .inl (cI, 24, .inl (u9.2.1 0))), (a3, .inl (cI, 60, .inl (u9.2.1 1))), (a18, .inr (2, [.int i0, .int i1, .int i2, .int i3, .int i4, .int i5, .int i6, .int i7, .int i8, .ref a19, .ref a20, .ref a21, .ref a22, .ref a23])), (a19, .inr (3, [.int i9, .ref a24, .ref a25, .ref a26, .ref a27, .ref a28, .ref a29, .ref a30])), (a24, .inl (cI, 24, .inl xF16)), (a25, .inl (cI, 24, .inl xF17)), (a26, .inl (cI, 24, .inl xF18)), (a27, .inl (cI, 24, .inl xF19)), (a28, .inl (cI, 24, .inl xF20)), (a29, .inl (cI, 24, .inl xF21)), (a30, .inl (cZ, 24, .inl xF22))] t.heap ∧ va_D A [(a0, .inr (0, [.ref a1, .ref a2, .ref a3, .ref a4, .ref a5, .ref a6, .ref a7])), (a1, .inl (cI, 24, .inl (u9.2.1 0))), (a3, .inl (cI, 60, .inl (u9.2.1 1))), (a18, .inr (2, [.int i0, .int i1, .int i2, .int i3, .int i4, .int i5, .int i6, .int i7, .int i8, .ref a19, .ref a20, .ref a21, .ref a22, .ref a23])), (a19, .inr (3, [.int i9, .ref a24, .ref a25, .ref a26, .ref a27, .ref a28, .ref a29, .ref a30])), (a24, .inl (cI, 24, .inl xF16)), (a25, .inl (cI, 24, .inl xF17)), (a26, .inl (cI, 24, .inl xF18)), (a27, .inl (cI, 24, .inl xF19)), (a28, .inl (cI, 24, .inl xF20)), (a29, .inl (cI, 24, .inl xF21)), (a30, .inl (cZ, 24, .inl xF22))]) A) ([.ref a0, .ref a18, .int p1] : List Value).toArray s 0 0 A := ⟨_, rfl⟩
  rw [← hQ]
  refine lv_aload_n hx hb dX0_fillProfileAsNow_0 rfl (lv_at hl 0 rfl) ?_
  refine lv_aload_n hx hb dX0_fillProfileAsNow_1 rfl (lv_at hl 1 rfl) ?_
  refine va_get (D := (dC, dI)) (ci := 2) (v := .ref a19) (C := RX2) (T := TX2) (N := 14) hx hb hwd inlX2 hown hK hP 3 rfl rfl 9 (by decide) (hwd _ kr18_9) (fun _ h9 => h9) rfl dX0_fillProfileAsNow_2 ?_
  refine lv_aload_n hx hb dX0_fillProfileAsNow_5 rfl (lv_at hl 1 rfl) ?_
  refine va_get (D := (dC, dI)) (ci := 2) (v := .ref a19) (C := RX2) (T := TX2) (N := 14) hx hb hwd inlX2 hown hK hP 3 rfl rfl 9 (by decide) (hwd _ kr18_9) (fun _ h9 => h9) rfl dX0_fillProfileAsNow_6 ?_
  refine va_get (D := (dC, dI)) (ci := 3) (v := .ref a29) (C := RX3) (T := TX3) (N := 8) hx hb hwd inlX3 hown hK hP 4 rfl rfl 6 (by decide) (hwd _ kr18_10) (fun _ h9 => h9) rfl dX0_fillProfileAsNow_9 ?_
  have hPc := hP.sub (ws' := [(a0, .inr (0, [.ref a1, .ref a2, .ref a3, .ref a4, .ref a5, .ref a6, .ref a7])), (a1, .inl (cI, 24, .inl xF0)), (a19, .inr (3, [.int i9, .ref a24, .ref a25, .ref a26, .ref a27, .ref a28, .ref a29, .ref a30])), (a27, .inl (cI, 24, .inl xF19)), (a30, .inl (cZ, 24, .inl xF22)), (a29, .inl (cI, 24, .inl xF21))]) [0, 1, 4, 8, 11, 10] rfl
  have hDc := hD.sub (ws' := [(a0, .inr (0, [.ref a1, .ref a2, .ref a3, .ref a4, .ref a5, .ref a6, .ref a7])), (a1, .inl (cI, 24, .inl xF0)), (a19, .inr (3, [.int i9, .ref a24, .ref a25, .ref a26, .ref a27, .ref a28, .ref a29, .ref a30])), (a27, .inl (cI, 24, .inl xF19)), (a30, .inl (cZ, 24, .inl xF22)), (a29, .inl (cI, 24, .inl xF21))]) [0, 1, 4, 8, 11, 10] (by decide) rfl
  have hFc := va_free (wc := [(a0, .inr (0, [.ref a1, .ref a2, .ref a3, .ref a4, .ref a5, .ref a6, .ref a7])), (a1, .inl (cI, 24, .inl xF0)), (a19, .inr (3, [.int i9, .ref a24, .ref a25, .ref a26, .ref a27, .ref a28, .ref a29, .ref a30])), (a27, .inl (cI, 24, .inl xF19)), (a30, .inl (cZ, 24, .inl xF22)), (a29, .inl (cI, 24, .inl xF21))]) hD hS hA [0, 1, 4, 8, 11, 10] rfl
  refine va_callv (va_runV (As := [.ref a19, .ref a29]) (rest := []) ⟨hx, hb, hml, hown, hwd⟩ (s_X0_takeHeights l dC dI cI cZ cB cJ cM cG a0 a1 a2 a3 a4 a5 a6 a7 a19 a24 a25 a26 a27 a28 a29 a30 a29 i9 xF0 xF19 xF22 xF21 s.heap.size (show (0 : Int) ≤ i9.toInt ∧ i9.toInt ≤ 24 from ⟨by omega, by omega⟩) (show rng xF19 24 0 60 from p_5) (show rng xF22 24 0 1 from p_6)) (cwV 2 hwd (gV kr18_17 kr18_18 kr18_19 kr1_23 kr18_20) rfl rfl rfl (by decide +kernel) ⟨Nat.le_of_ble_eq_true rfl, Nat.le_of_ble_eq_true rfl⟩) (kPreV hPc hK hDc (ci := 0) (q0 := 0) rfl rfl) rfl rfl hl.1 rfl (lv_room (Nat.le_of_ble_eq_true rfl)) dX0_fillProfileAsNow_12 ⟨Nat.le_of_ble_eq_true rfl, Nat.le_of_ble_eq_true rfl⟩) hS (fun q _ h => hFc q h) hFc (fun u2 t H1 locs ht9 hvm hw hB hz1 hk1 hS => ?_)
  obtain ⟨u3, U3, V3⟩ := u2
  obtain ⟨hP1, hD1⟩ := hB
  rw [ht9] at hP1
  obtain ⟨hP, hD⟩ := va_join (wr := [(a3, .inl (cI, 60, .inl xF2)), (a18, .inr (2, [.int i0, .int i1, .int i2, .int i3, .int i4, .int i5, .int i6, .int i7, .int i8, .ref a19, .ref a20, .ref a21, .ref a22, .ref a23])), (a24, .inl (cI, 24, .inl xF16)), (a25, .inl (cI, 24, .inl xF17)), (a26, .inl (cI, 24, .inl xF18)), (a28, .inl (cI, 24, .inl xF20))]) (w1 := [(a0, .inr (0, [.ref a1, .ref a2, .ref a3, .ref a4, .ref a5, .ref a6, .ref a7])), (a1, .inl (cI, 24, .inl (U3 0))), (a19, .inr (3, [.int i9, .ref a24, .ref a25, .ref a26, .ref a27, .ref a28, .ref a29, .ref a30])), (a27, .inl (cI, 24, .inl xF19)), (a30, .inl (cZ, 24, .inl xF22)), (a29, .inl (cI, 24, .inl xF21))]) hP hD [0, 1, 4, 8, 11, 10] [2, 3, 5, 6, 7, 9] rfl rfl (by decide) (by decide) hk1 hFc hP1 hD1
  generalize H1 = H at hP hS ⊢
  have hP : va_P (dC, dI) vwCl [(a3, .inl (cI, 60, .inl xF2)), (a18, .inr (2, [.int i0, .int i1, .int i2, .int i3, .int i4, .int i5, .int i6, .int i7, .int i8, .ref a19, .ref a20, .ref a21, .ref a22, .ref a23])), (a24, .inl (cI, 24, .inl xF16)), (a25, .inl (cI, 24, .inl xF17)), (a26, .inl (cI, 24, .inl xF18)), (a28, .inl (cI, 24, .inl xF20)), (a0, .inr (0, [.ref a1, .ref a2, .ref a3, .ref a4, .ref a5, .ref a6, .ref a7])), (a1, .inl (cI, 24, .inl (U3 0))), (a19, .inr (3, [.int i9, .ref a24, .ref a25, .ref a26, .ref a27, .ref a28, .ref a29, .ref a30])), (a27, .inl (cI, 24, .inl xF19)), (a30, .inl (cZ, 24, .inl xF22)), (a29, .inl (cI, 24, .inl xF21))] H := hP
  have hD : va_D A [(a3, .inl (cI, 60, .inl xF2)), (a18, .inr (2, [.int i0, .int i1, .int i2, .int i3, .int i4, .int i5, .int i6, .int i7, .int i8, .ref a19, .ref a20, .ref a21, .ref a22, .ref a23])), (a24, .inl (cI, 24, .inl xF16)), (a25, .inl (cI, 24, .inl xF17)), (a26, .inl (cI, 24, .inl xF18)), (a28, .inl (cI, 24, .inl xF20)), (a0, .inr (0, [.ref a1, .ref a2, .ref a3, .ref a4, .ref a5, .ref a6, .ref a7])), (a1, .inl (cI, 24, .inl (U3 0))), (a19, .inr (3, [.int i9, .ref a24, .ref a25, .ref a26, .ref a27, .ref a28, .ref a29, .ref a30])), (a27, .inl (cI, 24, .inl xF19)), (a30, .inl (cZ, 24, .inl xF22)), (a29, .inl (cI, 24, .inl xF21))] := hD
  refine lv_aload_n hx hb dX0_fillProfileAsNow_15 rfl (lv_at hl 0 rfl) ?_
  refine lv_aload_n hx hb dX0_fillProfileAsNow_16 rfl (lv_at hl 1 rfl) ?_
  refine lv_iload_n hx hb dX0_fillProfileAsNow_17 rfl (lv_at hl 2 rfl) ?_
  have hPc := hP.sub (ws' := [(a0, .inr (0, [.ref a1, .ref a2, .ref a3, .ref a4, .ref a5, .ref a6, .ref a7])), (a1, .inl (cI, 24, .inl (U3 0))), (a3, .inl (cI, 60, .inl xF2)), (a18, .inr (2, [.int i0, .int i1, .int i2, .int i3, .int i4, .int i5, .int i6, .int i7, .int i8, .ref a19, .ref a20, .ref a21, .ref a22, .ref a23])), (a19, .inr (3, [.int i9, .ref a24, .ref a25, .ref a26, .ref a27, .ref a28, .ref a29, .ref a30])), (a24, .inl (cI, 24, .inl xF16)), (a25, .inl (cI, 24, .inl xF17)), (a26, .inl (cI, 24, .inl xF18)), (a28, .inl (cI, 24, .inl xF20))]) [6, 7, 0, 1, 8, 2, 3, 4, 5] rfl
  have hDc := hD.sub (ws' := [(a0, .inr (0, [.ref a1, .ref a2, .ref a3, .ref a4, .ref a5, .ref a6, .ref a7])), (a1, .inl (cI, 24, .inl (U3 0))), (a3, .inl (cI, 60, .inl xF2)), (a18, .inr (2, [.int i0, .int i1, .int i2, .int i3, .int i4, .int i5, .int i6, .int i7, .int i8, .ref a19, .ref a20, .ref a21, .ref a22, .ref a23])), (a19, .inr (3, [.int i9, .ref a24, .ref a25, .ref a26, .ref a27, .ref a28, .ref a29, .ref a30])), (a24, .inl (cI, 24, .inl xF16)), (a25, .inl (cI, 24, .inl xF17)), (a26, .inl (cI, 24, .inl xF18)), (a28, .inl (cI, 24, .inl xF20))]) [6, 7, 0, 1, 8, 2, 3, 4, 5] (by decide) rfl
  have hFc := va_free (wc := [(a0, .inr (0, [.ref a1, .ref a2, .ref a3, .ref a4, .ref a5, .ref a6, .ref a7])), (a1, .inl (cI, 24, .inl (U3 0))), (a3, .inl (cI, 60, .inl xF2)), (a18, .inr (2, [.int i0, .int i1, .int i2, .int i3, .int i4, .int i5, .int i6, .int i7, .int i8, .ref a19, .ref a20, .ref a21, .ref a22, .ref a23])), (a19, .inr (3, [.int i9, .ref a24, .ref a25, .ref a26, .ref a27, .ref a28, .ref a29, .ref a30])), (a24, .inl (cI, 24, .inl xF16)), (a25, .inl (cI, 24, .inl xF17)), (a26, .inl (cI, 24, .inl xF18)), (a28, .inl (cI, 24, .inl xF20))]) hD hS hA [6, 7, 0, 1, 8, 2, 3, 4, 5] rfl
  refine va_callv (va_runV (As := [.ref a18, .int p1]) (rest := []) ⟨hx, hb, hml, hown, hwd⟩ (s_X0_fillProfile l dC dI cI cZ cB cJ cM cG a0 a1 a2 a3 a4 a5 a6 a7 a18 a19 a20 a21 a22 a23 a24 a25 a26 a27 a28 a29 a30 i0 i1 i2 i3 i4 i5 i6 i7 i8 i9 (U3 0) xF2 xF16 xF17 xF18 xF20 p1 H.size (show (0 : Int) ≤ i0.toInt ∧ i0.toInt ≤ 60 from ⟨by omega, by omega⟩) (show (0 : Int) ≤ i3.toInt ∧ i3.toInt ≤ 6 from ⟨by omega, by omega⟩) (show (0 : Int) ≤ i5.toInt ∧ i5.toInt ≤ 1 from ⟨by omega, by omega⟩) (show (0 : Int) ≤ i8.toInt ∧ i8.toInt ≤ 1 from ⟨by omega, by omega⟩) (show (0 : Int) ≤ i9.toInt ∧ i9.toInt ≤ 24 from ⟨by omega, by omega⟩)) (cwV 2 hwd (gV kr20_2 kr20_3 kr20_4 kr1_23 kr20_5) rfl rfl rfl (by decide +kernel) ⟨Nat.le_of_ble_eq_true rfl, Nat.le_of_ble_eq_true rfl⟩) (kPreV hPc hK hDc (ci := 0) (q0 := 0) rfl rfl) rfl rfl hl.1 rfl (lv_room (Nat.le_of_ble_eq_true rfl)) dX0_fillProfileAsNow_18 ⟨Nat.le_of_ble_eq_true rfl, Nat.le_of_ble_eq_true rfl⟩) hS (fun q _ h => hFc q h) hFc (fun u5 t H1 locs ht9 hvm hw hB hz1 hk1 hS => ?_)
  obtain ⟨u6, U6, V6⟩ := u5
  obtain ⟨hP1, hD1⟩ := hB
  rw [ht9] at hP1
  obtain ⟨hP, hD⟩ := va_join (wr := [(a27, .inl (cI, 24, .inl xF19)), (a30, .inl (cZ, 24, .inl xF22)), (a29, .inl (cI, 24, .inl xF21))]) (w1 := [(a0, .inr (0, [.ref a1, .ref a2, .ref a3, .ref a4, .ref a5, .ref a6, .ref a7])), (a1, .inl (cI, 24, .inl (U3 0))), (a3, .inl (cI, 60, .inl (U6 0))), (a18, .inr (2, [.int i0, .int i1, .int i2, .int i3, .int i4, .int i5, .int i6, .int i7, .int i8, .ref a19, .ref a20, .ref a21, .ref a22, .ref a23])), (a19, .inr (3, [.int i9, .ref a24, .ref a25, .ref a26, .ref a27, .ref a28, .ref a29, .ref a30])), (a24, .inl (cI, 24, .inl xF16)), (a25, .inl (cI, 24, .inl xF17)), (a26, .inl (cI, 24, .inl xF18)), (a28, .inl (cI, 24, .inl xF20))]) hP hD [6, 7, 0, 1, 8, 2, 3, 4, 5] [9, 10, 11] rfl rfl (by decide) (by decide) hk1 hFc hP1 hD1
  generalize H1 = H at hP hS ⊢
  have hP : va_P (dC, dI) vwCl [(a27, .inl (cI, 24, .inl xF19)), (a30, .inl (cZ, 24, .inl xF22)), (a29, .inl (cI, 24, .inl xF21)), (a0, .inr (0, [.ref a1, .ref a2, .ref a3, .ref a4, .ref a5, .ref a6, .ref a7])), (a1, .inl (cI, 24, .inl (U3 0))), (a3, .inl (cI, 60, .inl (U6 0))), (a18, .inr (2, [.int i0, .int i1, .int i2, .int i3, .int i4, .int i5, .int i6, .int i7, .int i8, .ref a19, .ref a20, .ref a21, .ref a22, .ref a23])), (a19, .inr (3, [.int i9, .ref a24, .ref a25, .ref a26, .ref a27, .ref a28, .ref a29, .ref a30])), (a24, .inl (cI, 24, .inl xF16)), (a25, .inl (cI, 24, .inl xF17)), (a26, .inl (cI, 24, .inl xF18)), (a28, .inl (cI, 24, .inl xF20))] H := hP
  have hD : va_D A [(a27, .inl (cI, 24, .inl xF19)), (a30, .inl (cZ, 24, .inl xF22)), (a29, .inl (cI, 24, .inl xF21)), (a0, .inr (0, [.ref a1, .ref a2, .ref a3, .ref a4, .ref a5, .ref a6, .ref a7])), (a1, .inl (cI, 24, .inl (U3 0))), (a3, .inl (cI, 60, .inl (U6 0))), (a18, .inr (2, [.int i0, .int i1, .int i2, .int i3, .int i4, .int i5, .int i6, .int i7, .int i8, .ref a19, .ref a20, .ref a21, .ref a22, .ref a23])), (a19, .inr (3, [.int i9, .ref a24, .ref a25, .ref a26, .ref a27, .ref a28, .ref a29, .ref a30])), (a24, .inl (cI, 24, .inl xF16)), (a25, .inl (cI, 24, .inl xF17)), (a26, .inl (cI, 24, .inl xF18)), (a28, .inl (cI, 24, .inl xF20))] := hD
  have hP9 := hP.sub (ws' := [(a0, .inr (0, [.ref a1, .ref a2, .ref a3, .ref a4, .ref a5, .ref a6, .ref a7])), (a1, .inl (cI, 24, .inl (U3 0))), (a3, .inl (cI, 60, .inl (U6 0))), (a18, .inr (2, [.int i0, .int i1, .int i2, .int i3, .int i4, .int i5, .int i6, .int i7, .int i8, .ref a19, .ref a20, .ref a21, .ref a22, .ref a23])), (a19, .inr (3, [.int i9, .ref a24, .ref a25, .ref a26, .ref a27, .ref a28, .ref a29, .ref a30])), (a24, .inl (cI, 24, .inl xF16)), (a25, .inl (cI, 24, .inl xF17)), (a26, .inl (cI, 24, .inl xF18)), (a27, .inl (cI, 24, .inl xF19)), (a28, .inl (cI, 24, .inl xF20)), (a29, .inl (cI, 24, .inl xF21)), (a30, .inl (cZ, 24, .inl xF22))]) [3, 4, 5, 6, 7, 8, 9, 10, 0, 11, 2, 1] rfl
  have hD9 := hD.sub (ws' := [(a0, .inr (0, [.ref a1, .ref a2, .ref a3, .ref a4, .ref a5, .ref a6, .ref a7])), (a1, .inl (cI, 24, .inl (U3 0))), (a3, .inl (cI, 60, .inl (U6 0))), (a18, .inr (2, [.int i0, .int i1, .int i2, .int i3, .int i4, .int i5, .int i6, .int i7, .int i8, .ref a19, .ref a20, .ref a21, .ref a22, .ref a23])), (a19, .inr (3, [.int i9, .ref a24, .ref a25, .ref a26, .ref a27, .ref a28, .ref a29, .ref a30])), (a24, .inl (cI, 24, .inl xF16)), (a25, .inl (cI, 24, .inl xF17)), (a26, .inl (cI, 24, .inl xF18)), (a27, .inl (cI, 24, .inl xF19)), (a28, .inl (cI, 24, .inl xF20)), (a29, .inl (cI, 24, .inl xF21)), (a30, .inl (cZ, 24, .inl xF22))]) [3, 4, 5, 6, 7, 8, 9, 10, 0, 11, 2, 1] (by decide) rfl
  rw [hQ]
  exact W.vret hx hb hr (fun t ht hW => ⟨⟨(pickG 0 [], pickG (fun _ => 0) [(U3 0), (U6 0)], pickG (fun _ => 0) []), rfl, trivial, (by rw [ht]; exact hP9), hD9⟩, hS.F ht⟩) hS.2.2 dX0_fillProfileAsNow_21
