theorem nw_RX11_9 : Cond.methodLinkNest RX11 9 yX10_init RX11 ∈ lw_tbl := List.mem_of_getElem? (i := 138) (by decide +kernel)
theorem nw_RX11_18 : Cond.methodLinkNest RX11 18 yX5_init RX11 ∈ lw_tbl := List.mem_of_getElem? (i := 174) (by decide +kernel)
theorem nw_RX11_25 : Cond.methodLinkNest RX11 25 yX0_init RX11 ∈ lw_tbl := List.mem_of_getElem? (i := 215) (by decide +kernel)
theorem nw_RX11_32 : Cond.methodLinkNest RX11 32 yX9_init RX11 ∈ lw_tbl := List.mem_of_getElem? (i := 252) (by decide +kernel)
theorem nw_RX11_39 : Cond.methodLinkNest RX11 39 yX8_init RX11 ∈ lw_tbl := List.mem_of_getElem? (i := 279) (by decide +kernel)
theorem nw_RX11_46 : Cond.methodLinkNest RX11 46 yX6_init RX11 ∈ lw_tbl := List.mem_of_getElem? (i := 302) (by decide +kernel)
theorem nw_RX11_61 : Cond.methodLinkNest RX11 61 yX2_init RX11 ∈ lw_tbl := List.mem_of_getElem? (i := 325) (by decide +kernel)
theorem nw_RX2_11 : Cond.methodLinkNest RX2 11 yX3_init RX11 ∈ lw_tbl := List.mem_of_getElem? (i := 331) (by decide +kernel)
theorem nw_RX2_20 : Cond.methodLinkNest RX2 20 yX1_init RX11 ∈ lw_tbl := List.mem_of_getElem? (i := 381) (by decide +kernel)
theorem nw_RX2_27 : Cond.methodLinkNest RX2 27 yX4_init RX11 ∈ lw_tbl := List.mem_of_getElem? (i := 431) (by decide +kernel)
theorem nw_RX2_34 : Cond.methodLinkNest RX2 34 yX7_init RX11 ∈ lw_tbl := List.mem_of_getElem? (i := 458) (by decide +kernel)
theorem nw_ao : Cond.arrayOver (.object RX2) ∈ lw_tbl := List.mem_of_getElem? (i := 323) (by decide +kernel)
theorem nw_aoa : Cond.arrayOver (.array .int) ∈ lw_tbl := List.mem_of_getElem? (i := 220) (by decide +kernel)
theorem nD_start {s : State} {b : Nat} (hts : ∀ w ∈ lw_tbl, w.before #[Value.ref b] s = true) : nD s := by
  refine ⟨va_Nw.of rfl (hts _ nw_RX11_9), va_Nw.of rfl (hts _ nw_RX11_18), va_Nw.of rfl (hts _ nw_RX11_25), va_Nw.of rfl (hts _ nw_RX11_32), va_Nw.of rfl (hts _ nw_RX11_39), va_Nw.of rfl (hts _ nw_RX11_46), va_Nw.of rfl (hts _ nw_RX11_61), ⟨va_Nw.of rfl (hts _ nw_RX2_11), va_Nw.of rfl (hts _ nw_RX2_20), va_Nw.of rfl (hts _ nw_RX2_27), va_Nw.of rfl (hts _ nw_RX2_34)⟩, va_AO.of (hts _ nw_ao), (hts _ nw_aoa : (Cond.arrayOver (.array .int)).before #[Value.ref b] s = true)⟩
theorem ka_arr {s : State} {args : Array Value} {ty : FieldType} (h : (Cond.arrayClass ty).before args s = true) : ∃ c : ClassId, ArrOfT s c ty ∧ s.vm.findClass ("[" ++ ty.toString) = some c := by
  obtain ⟨c, k, comp, h1, h2, h3⟩ := Cond.arrayClass_spec h
  exact ⟨c, fun n z => ⟨fun q hq => (by cases hq), k, h2, comp, h3⟩, h1⟩
theorem ka_arrO {s : State} {C : String} (h : va_AO C s) : ∃ c : ClassId, ArrOfT s c (.object C) ∧ va_RA s c (.object C) := by
  obtain ⟨comp, c, k, h1, h2, h3, h4, h5⟩ := Cond.arrayOver_spec h
  exact ⟨c, fun n z => ⟨fun q hq => (by cases hq), k, h3, comp, h4⟩, k, comp, h3, h4, h1, h5⟩
theorem ka_arrA {s : State} (h : va_AOA .int s) : ∃ c : ClassId, ArrOfT s c (.array .int) ∧ va_RA s c (.array .int) := by
  obtain ⟨comp, c, k, h1, h3, h4, h5⟩ := Cond.arrayOver_specA (va_AOA.use (A := #[]) h)
  exact ⟨c, fun n z => ⟨fun q hq => (by cases hq), k, h3, comp, h4⟩, h5⟩
set_option maxRecDepth 100000 in
theorem k_start {s : State} {b : Nat} (hts : ∀ w ∈ lw_tbl, w.before #[Value.ref b] s = true) : ∃ (dC : Nat → ClassId) (dI : Nat → Nat → Nat) (cI cZ cB cJ cM cG : ClassId), va_K (dC, dI) vwCl [(cI, .int), (cZ, .boolean), (cB, .byte), (cJ, .long), (cM, .object RX2), (cG, .array .int)] s := by
  have hwd : ∀ wd ∈ wsL_law, wd.before #[Value.ref b] s = true := fun w h => hts w (wsL_law_in w h)
  obtain ⟨c0, i0, hk0⟩ := u_known (C := RX0) (T := TX0) (N := 7) (n := 7) hwd inlX0 (hwd _ kr8_4)
  obtain ⟨c1, i1, hk1⟩ := u_known (C := RX1) (T := TX1) (N := 10) (n := 10) hwd inlX1 (hwd _ kr12_5)
  obtain ⟨c2, i2, hk2⟩ := u_known (C := RX2) (T := TX2) (N := 14) (n := 14) hwd inlX2 (hwd _ kr10_16)
  obtain ⟨c3, i3, hk3⟩ := u_known (C := RX3) (T := TX3) (N := 8) (n := 8) hwd inlX3 (hwd _ kr10_21)
  obtain ⟨c4, i4, hk4⟩ := u_known (C := RX4) (T := TX4) (N := 5) (n := 5) hwd inlX4 (hwd _ kr13_9)
  obtain ⟨c5, i5, hk5⟩ := u_known (C := RX5) (T := TX5) (N := 11) (n := 11) hwd inlX5 (hwd _ kr7_11)
  obtain ⟨c6, i6, hk6⟩ := u_known (C := RX6) (T := TX6) (N := 4) (n := 4) hwd inlX6 (hwd _ kr10_4)
  obtain ⟨c7, i7, hk7⟩ := u_known (C := RX7) (T := TX7) (N := 8) (n := 8) hwd inlX7 (hwd _ kr14_0)
  obtain ⟨c8, i8, hk8⟩ := u_known (C := RX8) (T := TX8) (N := 4) (n := 4) hwd inlX8 (hwd _ kr9_15)
  obtain ⟨c9, i9, hk9⟩ := u_known (C := RX9) (T := TX9) (N := 5) (n := 5) hwd inlX9 (hwd _ kr9_0)
  obtain ⟨c10, i10, hk10⟩ := u_known (C := RX10) (T := TX10) (N := 8) (n := 8) hwd inlX10 (hwd _ kr6_17)
  obtain ⟨c11, i11, hk11⟩ := u_known (C := RX11) (T := TX11) (N := 10) (n := 10) hwd inlX11 (hwd _ kr6_9)
  obtain ⟨c12, i12, hk12⟩ := u_known (C := RX12) (T := TX12) (N := 42) (n := 42) hwd inlX12 (hwd _ kr48_18)
  obtain ⟨cI, aI, fI⟩ := ka_arr (hwd _ kr8_2)
  obtain ⟨cZ, aZ, fZ⟩ := ka_arr (hwd _ kr10_1)
  obtain ⟨cB, aB, fB⟩ := ka_arr (hwd _ kr7_9)
  obtain ⟨cJ, aJ, fJ⟩ := ka_arr (hwd _ kr10_2)
  obtain ⟨cM, aM, fM⟩ := ka_arrO (nD_start hts).2.2.2.2.2.2.2.2.1
  obtain ⟨cG, aG, fG⟩ := ka_arrA (nD_start hts).2.2.2.2.2.2.2.2.2
  refine ⟨fun k => ([c0, c1, c2, c3, c4, c5, c6, c7, c8, c9, c10, c11, c12] : List ClassId).getD k c12, fun k => ([i0, i1, i2, i3, i4, i5, i6, i7, i8, i9, i10, i11, i12] : List (Nat → Nat)).getD k i12, cI, cZ, cB, cJ, cM, cG, ?_, ?_⟩
  · intro k q hq
    match k, hq with
    | 0, hq => cases hq; exact hk0
    | 1, hq => cases hq; exact hk1
    | 2, hq => cases hq; exact hk2
    | 3, hq => cases hq; exact hk3
    | 4, hq => cases hq; exact hk4
    | 5, hq => cases hq; exact hk5
    | 6, hq => cases hq; exact hk6
    | 7, hq => cases hq; exact hk7
    | 8, hq => cases hq; exact hk8
    | 9, hq => cases hq; exact hk9
    | 10, hq => cases hq; exact hk10
    | 11, hq => cases hq; exact hk11
    | 12, hq => cases hq; exact hk12
    | k + 13, hq => simp [vwCl] at hq
  · intro k q hq
    match k, hq with
    | 0, hq => cases hq; exact ⟨aI, fI⟩
    | 1, hq => cases hq; exact ⟨aZ, fZ⟩
    | 2, hq => cases hq; exact ⟨aB, fB⟩
    | 3, hq => cases hq; exact ⟨aJ, fJ⟩
    | 4, hq => cases hq; exact ⟨aM, fM⟩
    | 5, hq => cases hq; exact ⟨aG, fG⟩
    | k + 6, hq => simp at hq
