theorem dL_law_18 : decode cL_law 18 = .ok (.iload_n 3, 1) := by decide +kernel
theorem dL_law_19 : decode cL_law 19 = .ok (.aload_n 0, 1) := by decide +kernel
theorem dL_law_20 : decode cL_law 20 = .ok (.arraylength, 1) := by decide +kernel
theorem dL_law_21 : decode cL_law 21 = .ok (.bipush 6, 2) := by decide +kernel
theorem dL_law_23 : decode cL_law 23 = .ok (.isub, 1) := by decide +kernel
theorem dL_law_24 : decode cL_law 24 = .ok (.if_icmp .gt 1712, 3) := by decide +kernel
theorem dL_law_27 : decode cL_law 27 = .ok (.aload_n 0, 1) := by decide +kernel
theorem dL_law_28 : decode cL_law 28 = .ok (.iload_n 3, 1) := by decide +kernel
theorem dL_law_29 : decode cL_law 29 = .ok (.iaload, 1) := by decide +kernel
theorem dL_law_30 : decode cL_law 30 = .ok (.bipush 63, 2) := by decide +kernel
theorem dL_law_32 : decode cL_law 32 = .ok (.iand, 1) := by decide +kernel
theorem dL_law_33 : decode cL_law 33 = .ok (.tableswitch 1697 0 47 #[207, 270, 293, 306, 319, 342, 375, 408, 431, 454, 487, 510, 543, 566, 589, 622, 655, 678, 691, 714, 727, 760, 809, 842, 855, 888, 911, 954, 987, 1010, 1033, 1056, 1079, 1092, 1115, 1148, 1171, 1204, 1247, 1300, 1343, 1386, 1449, 1472, 1495, 1518, 1561, 1634], 207) := by decide +kernel
theorem dL_law_1736 : decode cL_law 1736 = .ok (.iconst 1, 1) := by decide +kernel
theorem dL_law_1737 : decode cL_law 1737 = .ok (.ireturn, 1) := by decide +kernel
set_option maxHeartbeats 16000000 in
set_option maxRecDepth 100000 in
/-- the loop -/
theorem law_loop {p : Program} {l : Launch} {e : Env} {s : State} {m : MethodId} {below : List Frame} {meth : Method} {c : Code} {b L : Nat} {xs : Nat → Int32} {dC : Nat → ClassId} {dI : Nat → Nat → Nat} {cI cZ cB cJ cM cG : ClassId} (C0 : lw_At p s m meth c b L xs) (hL : L ≤ 384) (hN : NT (fun q : Nat => s.heap.size ≤ q) s) (hK : va_K (dC, dI) vwCl [(cI, .int), (cZ, .boolean), (cB, .byte), (cJ, .long), (cM, .object RX2), (cG, .array .int)] s) : ∀ d : Nat, LInv p l e s m below meth c b L xs dC dI cI cZ cB cJ cM cG d := by
  intro d
  induction d with
  | zero =>
    unfold LInv
    intro H locs ls w3 a u F G j hP hD hS hl h0 h9 hp hm
    omega
  | succ d ih =>
    unfold LInv
    intro H locs ls w3 a u F G j hP hD hS hl h0 h9 hp hm
    obtain ⟨hx, hb, hr, hml, hown0, hts, hX, hbl, hlocks, hgv⟩ := id C0
    have hb : c.code = cL_law := hb
    have hown : s.vm.findClass RL = some m.cls := hown0
    have hwd : ∀ wd ∈ wsL_law, wd.before #[Value.ref b] s = true := fun w h => hts w (wsL_law_in w h)
    have hA : ∀ q : Nat, s.heap.size ≤ q → (fun q : Nat => s.heap.size ≤ q) q := fun _ h => h
    have hbA : ¬ (fun q : Nat => s.heap.size ≤ q) b := Nat.not_le.mpr hbl
    clear hgv hts
    have k6 : (6 : Int32).toInt = 6 := by decide
    have k63 : (63 : Int32).toInt = 63 := by decide
    refine lv_iload_n hx hb dL_law_18 rfl (lv_at hl 3 rfl) ?_
    refine lv_aload_n hx hb dL_law_19 rfl (lv_at hl 0 rfl) ?_
    refine va_slen hx hb hX hbl hbA hS dL_law_20 ?_
    refine lv_topi (fun x1 ex1 => ?_)
    have tx1 : x1.toInt = (L : Int) := by rw [ex1]; exact Int32.toInt_ofNat_of_lt (by omega)
    refine lv_bipush (v := 6) hx hb dL_law_21 (by decide) ?_
    refine lv_isub hx hb dL_law_23 ?_
    refine lv_topi (fun x2 ex2 => ?_)
    have tx2 := ia_sub (a := x1) (b := (6 : Int32)) (by omega) (by omega)
    rw [← ex2] at tx2
    refine lv_icmp_gt (tgt := 1736) hx hb dL_law_24 (by decide) (fun c9 => ?_) (fun c9 => ?_)
    · refine lv_iconst (v := 1) hx hb dL_law_1736 (by decide) ?_
      refine va_forget (fun q hq => hS.2.2 q hq) ?_
      refine W.widen (k := 600000) (n := 7302250) (Nat.le_of_ble_eq_true rfl) (Nat.le_of_ble_eq_true rfl) ?_
      exact lw_ret hx hb hr hlocks dL_law_1737
    · rw [ki_lt] at c9
      refine lv_aload_n hx hb dL_law_27 rfl (lv_at hl 0 rfl) ?_
      refine lv_iload_n hx hb dL_law_28 rfl (lv_at hl 3 rfl) ?_
      refine va_sld hx hb hX hbl hbA hS (vp_of (by omega) (by omega)) dL_law_29 ?_
      refine lv_topi (fun x3 ex3 => ?_)
      refine lv_bipush (v := 63) hx hb dL_law_30 (by decide) ?_
      refine lv_iand hx hb dL_law_32 ?_
      refine lv_topi (fun x4 ex4 => ?_)
      have tx4 := ia_and (a := x3) (m := (63 : Int32)) (by decide)
      rw [← ex4] at tx4
      by_cases c8 : x4.toInt < 0 ∨ 47 < x4.toInt
      · refine lv_tableOut (tgt := 1730) hx hb dL_law_33 c8 (by decide) ?_
        exact ldisp_d C0 hL hN hK ih hP hD hS (lv_sub hl [0, 1, 2, 3] rfl) h0 (by omega) hp hm
      · have c7 : x4.toInt = 0 ∨ x4.toInt = 1 ∨ x4.toInt = 2 ∨ x4.toInt = 3 ∨ x4.toInt = 4 ∨ x4.toInt = 5 ∨ x4.toInt = 6 ∨ x4.toInt = 7 ∨ x4.toInt = 8 ∨ x4.toInt = 9 ∨ x4.toInt = 10 ∨ x4.toInt = 11 ∨ x4.toInt = 12 ∨ x4.toInt = 13 ∨ x4.toInt = 14 ∨ x4.toInt = 15 ∨ x4.toInt = 16 ∨ x4.toInt = 17 ∨ x4.toInt = 18 ∨ x4.toInt = 19 ∨ x4.toInt = 20 ∨ x4.toInt = 21 ∨ x4.toInt = 22 ∨ x4.toInt = 23 ∨ x4.toInt = 24 ∨ x4.toInt = 25 ∨ x4.toInt = 26 ∨ x4.toInt = 27 ∨ x4.toInt = 28 ∨ x4.toInt = 29 ∨ x4.toInt = 30 ∨ x4.toInt = 31 ∨ x4.toInt = 32 ∨ x4.toInt = 33 ∨ x4.toInt = 34 ∨ x4.toInt = 35 ∨ x4.toInt = 36 ∨ x4.toInt = 37 ∨ x4.toInt = 38 ∨ x4.toInt = 39 ∨ x4.toInt = 40 ∨ x4.toInt = 41 ∨ x4.toInt = 42 ∨ x4.toInt = 43 ∨ x4.toInt = 44 ∨ x4.toInt = 45 ∨ x4.toInt = 46 ∨ x4.toInt = 47 := by omega
        clear c8
        rcases c7 with c7 | c7 | c7 | c7 | c7 | c7 | c7 | c7 | c7 | c7 | c7 | c7 | c7 | c7 | c7 | c7 | c7 | c7 | c7 | c7 | c7 | c7 | c7 | c7 | c7 | c7 | c7 | c7 | c7 | c7 | c7 | c7 | c7 | c7 | c7 | c7 | c7 | c7 | c7 | c7 | c7 | c7 | c7 | c7 | c7 | c7 | c7 | c7
        · refine lv_tableIn (off := 207) (tgt := 240) hx hb dL_law_33 (by omega) (by omega) (by rw [c7]; decide) (by decide) ?_
          exact ldisp_0 C0 hL hN hK ih hP hD hS (lv_sub hl [0, 1, 2, 3] rfl) h0 (by omega) hp hm
        · refine lv_tableIn (off := 270) (tgt := 303) hx hb dL_law_33 (by omega) (by omega) (by rw [c7]; decide) (by decide) ?_
          exact ldisp_1 C0 hL hN hK ih hP hD hS (lv_sub hl [0, 1, 2, 3] rfl) h0 (by omega) hp hm
        · refine lv_tableIn (off := 293) (tgt := 326) hx hb dL_law_33 (by omega) (by omega) (by rw [c7]; decide) (by decide) ?_
          exact ldisp_2 C0 hL hN hK ih hP hD hS (lv_sub hl [0, 1, 2, 3] rfl) h0 (by omega) hp hm
        · refine lv_tableIn (off := 306) (tgt := 339) hx hb dL_law_33 (by omega) (by omega) (by rw [c7]; decide) (by decide) ?_
          exact ldisp_3 C0 hL hN hK ih hP hD hS (lv_sub hl [0, 1, 2, 3] rfl) h0 (by omega) hp hm
        · refine lv_tableIn (off := 319) (tgt := 352) hx hb dL_law_33 (by omega) (by omega) (by rw [c7]; decide) (by decide) ?_
          exact ldisp_4 C0 hL hN hK ih hP hD hS (lv_sub hl [0, 1, 2, 3] rfl) h0 (by omega) hp hm
        · refine lv_tableIn (off := 342) (tgt := 375) hx hb dL_law_33 (by omega) (by omega) (by rw [c7]; decide) (by decide) ?_
          exact ldisp_5 C0 hL hN hK ih hP hD hS (lv_sub hl [0, 1, 2, 3] rfl) h0 (by omega) hp hm
        · refine lv_tableIn (off := 375) (tgt := 408) hx hb dL_law_33 (by omega) (by omega) (by rw [c7]; decide) (by decide) ?_
          exact ldisp_6 C0 hL hN hK ih hP hD hS (lv_sub hl [0, 1, 2, 3] rfl) h0 (by omega) hp hm
        · refine lv_tableIn (off := 408) (tgt := 441) hx hb dL_law_33 (by omega) (by omega) (by rw [c7]; decide) (by decide) ?_
          exact ldisp_7 C0 hL hN hK ih hP hD hS (lv_sub hl [0, 1, 2, 3] rfl) h0 (by omega) hp hm
        · refine lv_tableIn (off := 431) (tgt := 464) hx hb dL_law_33 (by omega) (by omega) (by rw [c7]; decide) (by decide) ?_
          exact ldisp_8 C0 hL hN hK ih hP hD hS (lv_sub hl [0, 1, 2, 3] rfl) h0 (by omega) hp hm
        · refine lv_tableIn (off := 454) (tgt := 487) hx hb dL_law_33 (by omega) (by omega) (by rw [c7]; decide) (by decide) ?_
          exact ldisp_9 C0 hL hN hK ih hP hD hS (lv_sub hl [0, 1, 2, 3] rfl) h0 (by omega) hp hm
        · refine lv_tableIn (off := 487) (tgt := 520) hx hb dL_law_33 (by omega) (by omega) (by rw [c7]; decide) (by decide) ?_
          exact ldisp_10 C0 hL hN hK ih hP hD hS (lv_sub hl [0, 1, 2, 3] rfl) h0 (by omega) hp hm
        · refine lv_tableIn (off := 510) (tgt := 543) hx hb dL_law_33 (by omega) (by omega) (by rw [c7]; decide) (by decide) ?_
          exact ldisp_11 C0 hL hN hK ih hP hD hS (lv_sub hl [0, 1, 2, 3] rfl) h0 (by omega) hp hm
        · refine lv_tableIn (off := 543) (tgt := 576) hx hb dL_law_33 (by omega) (by omega) (by rw [c7]; decide) (by decide) ?_
          exact ldisp_12 C0 hL hN hK ih hP hD hS (lv_sub hl [0, 1, 2, 3] rfl) h0 (by omega) hp hm
        · refine lv_tableIn (off := 566) (tgt := 599) hx hb dL_law_33 (by omega) (by omega) (by rw [c7]; decide) (by decide) ?_
          exact ldisp_13 C0 hL hN hK ih hP hD hS (lv_sub hl [0, 1, 2, 3] rfl) h0 (by omega) hp hm
        · refine lv_tableIn (off := 589) (tgt := 622) hx hb dL_law_33 (by omega) (by omega) (by rw [c7]; decide) (by decide) ?_
          exact ldisp_14 C0 hL hN hK ih hP hD hS (lv_sub hl [0, 1, 2, 3] rfl) h0 (by omega) hp hm
        · refine lv_tableIn (off := 622) (tgt := 655) hx hb dL_law_33 (by omega) (by omega) (by rw [c7]; decide) (by decide) ?_
          exact ldisp_15 C0 hL hN hK ih hP hD hS (lv_sub hl [0, 1, 2, 3] rfl) h0 (by omega) hp hm
        · refine lv_tableIn (off := 655) (tgt := 688) hx hb dL_law_33 (by omega) (by omega) (by rw [c7]; decide) (by decide) ?_
          exact ldisp_16 C0 hL hN hK ih hP hD hS (lv_sub hl [0, 1, 2, 3] rfl) h0 (by omega) hp hm
        · refine lv_tableIn (off := 678) (tgt := 711) hx hb dL_law_33 (by omega) (by omega) (by rw [c7]; decide) (by decide) ?_
          exact ldisp_17 C0 hL hN hK ih hP hD hS (lv_sub hl [0, 1, 2, 3] rfl) h0 (by omega) hp hm
        · refine lv_tableIn (off := 691) (tgt := 724) hx hb dL_law_33 (by omega) (by omega) (by rw [c7]; decide) (by decide) ?_
          exact ldisp_18 C0 hL hN hK ih hP hD hS (lv_sub hl [0, 1, 2, 3] rfl) h0 (by omega) hp hm
        · refine lv_tableIn (off := 714) (tgt := 747) hx hb dL_law_33 (by omega) (by omega) (by rw [c7]; decide) (by decide) ?_
          exact ldisp_19 C0 hL hN hK ih hP hD hS (lv_sub hl [0, 1, 2, 3] rfl) h0 (by omega) hp hm
        · refine lv_tableIn (off := 727) (tgt := 760) hx hb dL_law_33 (by omega) (by omega) (by rw [c7]; decide) (by decide) ?_
          exact ldisp_20 C0 hL hN hK ih hP hD hS (lv_sub hl [0, 1, 2, 3] rfl) h0 (by omega) hp hm
        · refine lv_tableIn (off := 760) (tgt := 793) hx hb dL_law_33 (by omega) (by omega) (by rw [c7]; decide) (by decide) ?_
          exact ldisp_21 C0 hL hN hK ih hP hD hS (lv_sub hl [0, 1, 2, 3] rfl) h0 (by omega) hp hm
        · refine lv_tableIn (off := 809) (tgt := 842) hx hb dL_law_33 (by omega) (by omega) (by rw [c7]; decide) (by decide) ?_
          exact ldisp_22 C0 hL hN hK ih hP hD hS (lv_sub hl [0, 1, 2, 3] rfl) h0 (by omega) hp hm
        · refine lv_tableIn (off := 842) (tgt := 875) hx hb dL_law_33 (by omega) (by omega) (by rw [c7]; decide) (by decide) ?_
          exact ldisp_23 C0 hL hN hK ih hP hD hS (lv_sub hl [0, 1, 2, 3] rfl) h0 (by omega) hp hm
        · refine lv_tableIn (off := 855) (tgt := 888) hx hb dL_law_33 (by omega) (by omega) (by rw [c7]; decide) (by decide) ?_
          exact ldisp_24 C0 hL hN hK ih hP hD hS (lv_sub hl [0, 1, 2, 3] rfl) h0 (by omega) hp hm
        · refine lv_tableIn (off := 888) (tgt := 921) hx hb dL_law_33 (by omega) (by omega) (by rw [c7]; decide) (by decide) ?_
          exact ldisp_25 C0 hL hN hK ih hP hD hS (lv_sub hl [0, 1, 2, 3] rfl) h0 (by omega) hp hm
        · refine lv_tableIn (off := 911) (tgt := 944) hx hb dL_law_33 (by omega) (by omega) (by rw [c7]; decide) (by decide) ?_
          exact ldisp_26 C0 hL hN hK ih hP hD hS (lv_sub hl [0, 1, 2, 3] rfl) h0 (by omega) hp hm
        · refine lv_tableIn (off := 954) (tgt := 987) hx hb dL_law_33 (by omega) (by omega) (by rw [c7]; decide) (by decide) ?_
          exact ldisp_27 C0 hL hN hK ih hP hD hS (lv_sub hl [0, 1, 2, 3] rfl) h0 (by omega) hp hm
        · refine lv_tableIn (off := 987) (tgt := 1020) hx hb dL_law_33 (by omega) (by omega) (by rw [c7]; decide) (by decide) ?_
          exact ldisp_28 C0 hL hN hK ih hP hD hS (lv_sub hl [0, 1, 2, 3] rfl) h0 (by omega) hp hm
        · refine lv_tableIn (off := 1010) (tgt := 1043) hx hb dL_law_33 (by omega) (by omega) (by rw [c7]; decide) (by decide) ?_
          exact ldisp_29 C0 hL hN hK ih hP hD hS (lv_sub hl [0, 1, 2, 3] rfl) h0 (by omega) hp hm
        · refine lv_tableIn (off := 1033) (tgt := 1066) hx hb dL_law_33 (by omega) (by omega) (by rw [c7]; decide) (by decide) ?_
          exact ldisp_30 C0 hL hN hK ih hP hD hS (lv_sub hl [0, 1, 2, 3] rfl) h0 (by omega) hp hm
        · refine lv_tableIn (off := 1056) (tgt := 1089) hx hb dL_law_33 (by omega) (by omega) (by rw [c7]; decide) (by decide) ?_
          exact ldisp_31 C0 hL hN hK ih hP hD hS (lv_sub hl [0, 1, 2, 3] rfl) h0 (by omega) hp hm
        · refine lv_tableIn (off := 1079) (tgt := 1112) hx hb dL_law_33 (by omega) (by omega) (by rw [c7]; decide) (by decide) ?_
          exact ldisp_32 C0 hL hN hK ih hP hD hS (lv_sub hl [0, 1, 2, 3] rfl) h0 (by omega) hp hm
        · refine lv_tableIn (off := 1092) (tgt := 1125) hx hb dL_law_33 (by omega) (by omega) (by rw [c7]; decide) (by decide) ?_
          exact ldisp_33 C0 hL hN hK ih hP hD hS (lv_sub hl [0, 1, 2, 3] rfl) h0 (by omega) hp hm
        · refine lv_tableIn (off := 1115) (tgt := 1148) hx hb dL_law_33 (by omega) (by omega) (by rw [c7]; decide) (by decide) ?_
          exact ldisp_34 C0 hL hN hK ih hP hD hS (lv_sub hl [0, 1, 2, 3] rfl) h0 (by omega) hp hm
        · refine lv_tableIn (off := 1148) (tgt := 1181) hx hb dL_law_33 (by omega) (by omega) (by rw [c7]; decide) (by decide) ?_
          exact ldisp_35 C0 hL hN hK ih hP hD hS (lv_sub hl [0, 1, 2, 3] rfl) h0 (by omega) hp hm
        · refine lv_tableIn (off := 1171) (tgt := 1204) hx hb dL_law_33 (by omega) (by omega) (by rw [c7]; decide) (by decide) ?_
          exact ldisp_36 C0 hL hN hK ih hP hD hS (lv_sub hl [0, 1, 2, 3] rfl) h0 (by omega) hp hm
        · refine lv_tableIn (off := 1204) (tgt := 1237) hx hb dL_law_33 (by omega) (by omega) (by rw [c7]; decide) (by decide) ?_
          exact ldisp_37 C0 hL hN hK ih hP hD hS (lv_sub hl [0, 1, 2, 3] rfl) h0 (by omega) hp hm
        · refine lv_tableIn (off := 1247) (tgt := 1280) hx hb dL_law_33 (by omega) (by omega) (by rw [c7]; decide) (by decide) ?_
          exact ldisp_38 C0 hL hN hK ih hP hD hS (lv_sub hl [0, 1, 2, 3] rfl) h0 (by omega) hp hm
        · refine lv_tableIn (off := 1300) (tgt := 1333) hx hb dL_law_33 (by omega) (by omega) (by rw [c7]; decide) (by decide) ?_
          exact ldisp_39 C0 hL hN hK ih hP hD hS (lv_sub hl [0, 1, 2, 3] rfl) h0 (by omega) hp hm
        · refine lv_tableIn (off := 1343) (tgt := 1376) hx hb dL_law_33 (by omega) (by omega) (by rw [c7]; decide) (by decide) ?_
          exact ldisp_40 C0 hL hN hK ih hP hD hS (lv_sub hl [0, 1, 2, 3] rfl) h0 (by omega) hp hm
        · refine lv_tableIn (off := 1386) (tgt := 1419) hx hb dL_law_33 (by omega) (by omega) (by rw [c7]; decide) (by decide) ?_
          exact ldisp_41 C0 hL hN hK ih hP hD hS (lv_sub hl [0, 1, 2, 3] rfl) h0 (by omega) hp hm
        · refine lv_tableIn (off := 1449) (tgt := 1482) hx hb dL_law_33 (by omega) (by omega) (by rw [c7]; decide) (by decide) ?_
          exact ldisp_42 C0 hL hN hK ih hP hD hS (lv_sub hl [0, 1, 2, 3] rfl) h0 (by omega) hp hm
        · refine lv_tableIn (off := 1472) (tgt := 1505) hx hb dL_law_33 (by omega) (by omega) (by rw [c7]; decide) (by decide) ?_
          exact ldisp_43 C0 hL hN hK ih hP hD hS (lv_sub hl [0, 1, 2, 3] rfl) h0 (by omega) hp hm
        · refine lv_tableIn (off := 1495) (tgt := 1528) hx hb dL_law_33 (by omega) (by omega) (by rw [c7]; decide) (by decide) ?_
          exact ldisp_44 C0 hL hN hK ih hP hD hS (lv_sub hl [0, 1, 2, 3] rfl) h0 (by omega) hp hm
        · refine lv_tableIn (off := 1518) (tgt := 1551) hx hb dL_law_33 (by omega) (by omega) (by rw [c7]; decide) (by decide) ?_
          exact ldisp_45 C0 hL hN hK ih hP hD hS (lv_sub hl [0, 1, 2, 3] rfl) h0 (by omega) hp hm
        · refine lv_tableIn (off := 1561) (tgt := 1594) hx hb dL_law_33 (by omega) (by omega) (by rw [c7]; decide) (by decide) ?_
          exact ldisp_46 C0 hL hN hK ih hP hD hS (lv_sub hl [0, 1, 2, 3] rfl) h0 (by omega) hp hm
        · refine lv_tableIn (off := 1634) (tgt := 1667) hx hb dL_law_33 (by omega) (by omega) (by rw [c7]; decide) (by decide) ?_
          exact ldisp_47 C0 hL hN hK ih hP hD hS (lv_sub hl [0, 1, 2, 3] rfl) h0 (by omega) hp hm
