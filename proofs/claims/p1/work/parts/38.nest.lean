-- nest mates, arrays of references, the grid: what the constructors need beside the tables' words
theorem aoa_blind (a : Array Value) (U : State) (g : JFrame) (mk : MethodId) (h : va_AOA .int U) : va_AOA .int (U.calling g mk a) := aoa_alike (Vm.Alike.refl U.vm) h
theorem aoa_warm {s : State} (h : va_AOA .int s) (U : State) (hW : s.WarmedH U.vm) : va_AOA .int U := aoa_alike hW.alike h
def nD (U : State) : Prop := va_Nw (.methodLinkNest RX11 9 yX10_init RX11) U ∧ va_Nw (.methodLinkNest RX11 18 yX5_init RX11) U ∧ va_Nw (.methodLinkNest RX11 25 yX0_init RX11) U ∧ va_Nw (.methodLinkNest RX11 32 yX9_init RX11) U ∧ va_Nw (.methodLinkNest RX11 39 yX8_init RX11) U ∧ va_Nw (.methodLinkNest RX11 46 yX6_init RX11) U ∧ va_Nw (.methodLinkNest RX11 61 yX2_init RX11) U ∧ nM U ∧ va_AO RX2 U ∧ va_AOA .int U
theorem nD_blind (a : Array Value) (U : State) (g : JFrame) (mk : MethodId) (h : nD U) : nD (U.calling g mk a) := by
  obtain ⟨h1, h2, h3, h4, h5, h6, h7, h8, h9, h10⟩ := h
  exact ⟨va_Nw.same rfl rfl h1, va_Nw.same rfl rfl h2, va_Nw.same rfl rfl h3, va_Nw.same rfl rfl h4, va_Nw.same rfl rfl h5, va_Nw.same rfl rfl h6, va_Nw.same rfl rfl h7, nM_blind a U g mk h8, va_AO.moved (u := U) (U := U.calling g mk a) (Vm.Alike.refl U.vm) h9, aoa_blind a U g mk h10⟩
theorem nD_warm {s : State} (h : nD s) (U : State) (hW : s.WarmedH U.vm) : nD U := by
  obtain ⟨h1, h2, h3, h4, h5, h6, h7, h8, h9, h10⟩ := h
  exact ⟨va_Nw.warmM hW h1, va_Nw.warmM hW h2, va_Nw.warmM hW h3, va_Nw.warmM hW h4, va_Nw.warmM hW h5, va_Nw.warmM hW h6, va_Nw.warmM hW h7, nM_warm h8 U hW, va_AO.moved hW.alike h9, aoa_warm h10 U hW⟩
