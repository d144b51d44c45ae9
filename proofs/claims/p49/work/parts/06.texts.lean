-- MY OWN ROWS: texts (String constants) beside the world: what stays of them over a call
def kstr (a av n : Nat) (f : Nat → Int32) (A : Nat → Prop) (U : State) (H : Heap) : Prop := va_O "java/lang/String" a A U H ∧ va_OF "java/lang/String" "coder" "B" (.int 0) a A U H ∧ va_OF "java/lang/String" "value" "[B" (.ref av) a A U H ∧ va_T .byte av n (fun j => .int (f j)) A U H
theorem kstr.to {a av n : Nat} {f : Nat → Int32} {A B : Nat → Prop} {s U : State} {H H1 : Heap} (h : kstr a av n f A s H) (hvm : s.vm.Alike U.vm) (hq : ∀ a : Nat, a < H.size → ¬ A a → H1[a]? = H[a]?) (hAB : ∀ q, B q → A q) : kstr a av n f B U H1 :=
  ⟨((h.1.moved hvm).kept hq).narrow hAB, ((h.2.1.moved hvm).kept hq).narrow hAB, ((h.2.2.1.moved hvm).kept hq).narrow hAB, ((h.2.2.2.moved hvm).kept hq).narrow hAB⟩
def kstat (A : Nat → Prop) (U : State) (H : Heap) : Prop := va_Z "java/lang/String" "COMPACT_STRINGS" "Z" (.int 1) A U H ∧ va_Zq "jdk/internal/util/Preconditions" "SIOOBE_FORMATTER" "Ljava/util/function/BiFunction;" A U H
theorem kstat.to {A B : Nat → Prop} {s U : State} {H H1 : Heap} (h : kstat A s H) (hvm : s.vm.Alike U.vm) (hq : ∀ a : Nat, a < H.size → ¬ A a → H1[a]? = H[a]?) (hAB : ∀ q, B q → A q) : kstat B U H1 :=
  ⟨((h.1.moved hvm).kept hq).narrow hAB, ((h.2.moved hvm).kept hq).narrow hAB⟩
def refsL : List (String × Nat × String × Nat) := [(RX2, 151, "drum", 4), (RX2, 157, "steps", 5), (RX2, 161, "jam", 3), (RX2, 162, "slack", 5), (RX2, 126, "track", 5), (RX2, 135, "nose", 4), (RX3, 47, "on", 2), (RX3, 57, "at", 2), (RX3, 58, "wide", 4), (RX3, 59, "high", 4), (RX3, 60, "steep", 5), (RX2, 140, "pawl", 4), (RX4, 37, "on", 2), (RX4, 46, "at", 2), (RX4, 47, "teeth", 5), (RX2, 145, "gear", 4), (RX2, 170, "to", 2), (RX1, 64, "knife", 5), (RX1, 70, "roller", 6), (RX1, 72, "flat", 4), (RX1, 74, "lever", 5), (RX1, 80, "on", 2), (RX1, 87, "over", 4), (RX1, 85, "spring", 6), (RX1, 86, "lag", 3), (RX5, 52, "up", 2), (RX5, 62, "down", 4), (RX5, 64, "hold", 4), (RX5, 66, "times", 5), (RX5, 79, "if", 2), (RX5, 81, "above", 5), (RX12, 177, "drum", 4), (RX12, 179, "steps", 5), (RX12, 185, "jam", 3), (RX12, 187, "slack", 5), (RX12, 206, "knife", 5), (RX12, 208, "roller", 6), (RX12, 210, "flat", 4), (RX12, 212, "lever", 5), (RX12, 217, "track", 5), (RX12, 219, "nose", 4), (RX12, 221, "pawl", 4), (RX12, 223, "gear", 4), (RX12, 189, "on", 2), (RX12, 191, "at", 2), (RX12, 192, "wide", 4), (RX12, 194, "high", 4), (RX12, 196, "steep", 5), (RX12, 204, "teeth", 5), (RX12, 231, "to", 2), (RX12, 198, "over", 4), (RX12, 200, "spring", 6), (RX12, 202, "lag", 3), (RX12, 366, "up", 2), (RX12, 368, "down", 4), (RX12, 370, "hold", 4), (RX12, 372, "times", 5), (RX12, 377, "if", 2), (RX12, 379, "above", 5)]
theorem rf_RX2_151 : (RX2, 151, "drum", 4) ∈ refsL := List.mem_of_getElem? (i := 0) rfl
theorem rf_RX2_157 : (RX2, 157, "steps", 5) ∈ refsL := List.mem_of_getElem? (i := 1) rfl
theorem rf_RX2_161 : (RX2, 161, "jam", 3) ∈ refsL := List.mem_of_getElem? (i := 2) rfl
theorem rf_RX2_162 : (RX2, 162, "slack", 5) ∈ refsL := List.mem_of_getElem? (i := 3) rfl
theorem rf_RX2_126 : (RX2, 126, "track", 5) ∈ refsL := List.mem_of_getElem? (i := 4) rfl
theorem rf_RX2_135 : (RX2, 135, "nose", 4) ∈ refsL := List.mem_of_getElem? (i := 5) rfl
theorem rf_RX3_47 : (RX3, 47, "on", 2) ∈ refsL := List.mem_of_getElem? (i := 6) rfl
theorem rf_RX3_57 : (RX3, 57, "at", 2) ∈ refsL := List.mem_of_getElem? (i := 7) rfl
theorem rf_RX3_58 : (RX3, 58, "wide", 4) ∈ refsL := List.mem_of_getElem? (i := 8) rfl
theorem rf_RX3_59 : (RX3, 59, "high", 4) ∈ refsL := List.mem_of_getElem? (i := 9) rfl
theorem rf_RX3_60 : (RX3, 60, "steep", 5) ∈ refsL := List.mem_of_getElem? (i := 10) rfl
theorem rf_RX2_140 : (RX2, 140, "pawl", 4) ∈ refsL := List.mem_of_getElem? (i := 11) rfl
theorem rf_RX4_37 : (RX4, 37, "on", 2) ∈ refsL := List.mem_of_getElem? (i := 12) rfl
theorem rf_RX4_46 : (RX4, 46, "at", 2) ∈ refsL := List.mem_of_getElem? (i := 13) rfl
theorem rf_RX4_47 : (RX4, 47, "teeth", 5) ∈ refsL := List.mem_of_getElem? (i := 14) rfl
theorem rf_RX2_145 : (RX2, 145, "gear", 4) ∈ refsL := List.mem_of_getElem? (i := 15) rfl
theorem rf_RX2_170 : (RX2, 170, "to", 2) ∈ refsL := List.mem_of_getElem? (i := 16) rfl
theorem rf_RX1_64 : (RX1, 64, "knife", 5) ∈ refsL := List.mem_of_getElem? (i := 17) rfl
theorem rf_RX1_70 : (RX1, 70, "roller", 6) ∈ refsL := List.mem_of_getElem? (i := 18) rfl
theorem rf_RX1_72 : (RX1, 72, "flat", 4) ∈ refsL := List.mem_of_getElem? (i := 19) rfl
theorem rf_RX1_74 : (RX1, 74, "lever", 5) ∈ refsL := List.mem_of_getElem? (i := 20) rfl
theorem rf_RX1_80 : (RX1, 80, "on", 2) ∈ refsL := List.mem_of_getElem? (i := 21) rfl
theorem rf_RX1_87 : (RX1, 87, "over", 4) ∈ refsL := List.mem_of_getElem? (i := 22) rfl
theorem rf_RX1_85 : (RX1, 85, "spring", 6) ∈ refsL := List.mem_of_getElem? (i := 23) rfl
theorem rf_RX1_86 : (RX1, 86, "lag", 3) ∈ refsL := List.mem_of_getElem? (i := 24) rfl
theorem rf_RX5_52 : (RX5, 52, "up", 2) ∈ refsL := List.mem_of_getElem? (i := 25) rfl
theorem rf_RX5_62 : (RX5, 62, "down", 4) ∈ refsL := List.mem_of_getElem? (i := 26) rfl
theorem rf_RX5_64 : (RX5, 64, "hold", 4) ∈ refsL := List.mem_of_getElem? (i := 27) rfl
theorem rf_RX5_66 : (RX5, 66, "times", 5) ∈ refsL := List.mem_of_getElem? (i := 28) rfl
theorem rf_RX5_79 : (RX5, 79, "if", 2) ∈ refsL := List.mem_of_getElem? (i := 29) rfl
theorem rf_RX5_81 : (RX5, 81, "above", 5) ∈ refsL := List.mem_of_getElem? (i := 30) rfl
theorem rf_RX12_177 : (RX12, 177, "drum", 4) ∈ refsL := List.mem_of_getElem? (i := 31) rfl
theorem rf_RX12_179 : (RX12, 179, "steps", 5) ∈ refsL := List.mem_of_getElem? (i := 32) rfl
theorem rf_RX12_185 : (RX12, 185, "jam", 3) ∈ refsL := List.mem_of_getElem? (i := 33) rfl
theorem rf_RX12_187 : (RX12, 187, "slack", 5) ∈ refsL := List.mem_of_getElem? (i := 34) rfl
theorem rf_RX12_206 : (RX12, 206, "knife", 5) ∈ refsL := List.mem_of_getElem? (i := 35) rfl
theorem rf_RX12_208 : (RX12, 208, "roller", 6) ∈ refsL := List.mem_of_getElem? (i := 36) rfl
theorem rf_RX12_210 : (RX12, 210, "flat", 4) ∈ refsL := List.mem_of_getElem? (i := 37) rfl
theorem rf_RX12_212 : (RX12, 212, "lever", 5) ∈ refsL := List.mem_of_getElem? (i := 38) rfl
theorem rf_RX12_217 : (RX12, 217, "track", 5) ∈ refsL := List.mem_of_getElem? (i := 39) rfl
theorem rf_RX12_219 : (RX12, 219, "nose", 4) ∈ refsL := List.mem_of_getElem? (i := 40) rfl
theorem rf_RX12_221 : (RX12, 221, "pawl", 4) ∈ refsL := List.mem_of_getElem? (i := 41) rfl
theorem rf_RX12_223 : (RX12, 223, "gear", 4) ∈ refsL := List.mem_of_getElem? (i := 42) rfl
theorem rf_RX12_189 : (RX12, 189, "on", 2) ∈ refsL := List.mem_of_getElem? (i := 43) rfl
theorem rf_RX12_191 : (RX12, 191, "at", 2) ∈ refsL := List.mem_of_getElem? (i := 44) rfl
theorem rf_RX12_192 : (RX12, 192, "wide", 4) ∈ refsL := List.mem_of_getElem? (i := 45) rfl
theorem rf_RX12_194 : (RX12, 194, "high", 4) ∈ refsL := List.mem_of_getElem? (i := 46) rfl
theorem rf_RX12_196 : (RX12, 196, "steep", 5) ∈ refsL := List.mem_of_getElem? (i := 47) rfl
theorem rf_RX12_204 : (RX12, 204, "teeth", 5) ∈ refsL := List.mem_of_getElem? (i := 48) rfl
theorem rf_RX12_231 : (RX12, 231, "to", 2) ∈ refsL := List.mem_of_getElem? (i := 49) rfl
theorem rf_RX12_198 : (RX12, 198, "over", 4) ∈ refsL := List.mem_of_getElem? (i := 50) rfl
theorem rf_RX12_200 : (RX12, 200, "spring", 6) ∈ refsL := List.mem_of_getElem? (i := 51) rfl
theorem rf_RX12_202 : (RX12, 202, "lag", 3) ∈ refsL := List.mem_of_getElem? (i := 52) rfl
theorem rf_RX12_366 : (RX12, 366, "up", 2) ∈ refsL := List.mem_of_getElem? (i := 53) rfl
theorem rf_RX12_368 : (RX12, 368, "down", 4) ∈ refsL := List.mem_of_getElem? (i := 54) rfl
theorem rf_RX12_370 : (RX12, 370, "hold", 4) ∈ refsL := List.mem_of_getElem? (i := 55) rfl
theorem rf_RX12_372 : (RX12, 372, "times", 5) ∈ refsL := List.mem_of_getElem? (i := 56) rfl
theorem rf_RX12_377 : (RX12, 377, "if", 2) ∈ refsL := List.mem_of_getElem? (i := 57) rfl
theorem rf_RX12_379 : (RX12, 379, "above", 5) ∈ refsL := List.mem_of_getElem? (i := 58) rfl
def NS (a av n : Nat) (f : Nat → Int32) (A : Nat → Prop) (U : State) : Prop := kstat A U U.heap ∧ n ≤ 10 ∧ kstr a av n f A U U.heap
def NT (A : Nat → Prop) (U : State) : Prop := kstat A U U.heap ∧ ∀ q ∈ refsL, ∃ (a av n : Nat) (f : Nat → Int32), (n ≤ 10 ∧ n = q.2.2.2) ∧ vk_R q.1 q.2.1 q.2.2.1 a U ∧ kstr a av n f A U U.heap
def Stab (N : (Nat → Prop) → State → Prop) : Prop := (∀ (A B : Nat → Prop) (s U : State) (H : Heap) (locs : List Loc), N A s → va_S A s.heap H locs → s.WarmedH U.vm → U.heap = H → (∀ q, B q → A q) → N B U) ∧ ∀ (A : Nat → Prop) (a : Array Value) (U : State) (g : JFrame) (mk : MethodId), N A U → N A (U.calling g mk a)
theorem NS_st (a av n : Nat) (f : Nat → Int32) : Stab (NS a av n f) := by
  refine ⟨?_, ?_⟩
  · intro A B s U H locs hN hS hW hU hAB
    exact ⟨by rw [hU]; exact hN.1.to hW.alike hS.2.1 hAB, hN.2.1, by rw [hU]; exact hN.2.2.to hW.alike hS.2.1 hAB⟩
  · intro A a U g mk hN
    exact ⟨hN.1.to (U := U.calling g mk a) (Vm.Alike.refl U.vm) (fun _ _ _ => rfl) (fun _ h => h), hN.2.1, hN.2.2.to (U := U.calling g mk a) (Vm.Alike.refl U.vm) (fun _ _ _ => rfl) (fun _ h => h)⟩
theorem NT_st : Stab NT := by
  refine ⟨?_, ?_⟩
  · intro A B s U H locs hN hS hW hU hAB
    refine ⟨by rw [hU]; exact hN.1.to hW.alike hS.2.1 hAB, fun q hq => ?_⟩
    obtain ⟨a, av, n, f, h1, h2, h3⟩ := hN.2 q hq
    exact ⟨a, av, n, f, h1, vk_R.warm hW h2, by rw [hU]; exact h3.to hW.alike hS.2.1 hAB⟩
  · intro A x U g mk hN
    refine ⟨hN.1.to (U := U.calling g mk x) (Vm.Alike.refl U.vm) (fun _ _ _ => rfl) (fun _ h => h), fun q hq => ?_⟩
    obtain ⟨a, av, n, f, h1, h2, h3⟩ := hN.2 q hq
    exact ⟨a, av, n, f, h1, vk_R.same (u := U) (U := U.calling g mk x) rfl h2, h3.to (U := U.calling g mk x) (Vm.Alike.refl U.vm) (fun _ _ _ => rfl) (fun _ h => h)⟩
def kPreX (dC : Nat → ClassId) (dI : Nat → Nat → Nat) (tys : List (ClassId × FieldType)) (w : va_W) (sz : Nat) (N : (Nat → Prop) → State → Prop) (U : State) : Prop := kPre dC dI tys w sz U ∧ N (va_A w sz) U
theorem kBlindX {dC : Nat → ClassId} {dI : Nat → Nat → Nat} {tys : List (ClassId × FieldType)} {w : va_W} {sz : Nat} {av : List Value} {N : (Nat → Prop) → State → Prop} (hb : Stab N) : FrameBlind (va_Pc av (kPreX dC dI tys w sz N)) := fun a U g mk q => ⟨q.1, (kBlind (av := av) a U g mk ⟨q.1, q.2.1⟩).2, hb.2 _ a U g mk q.2.2⟩
theorem kPreSX {s : State} {H : Heap} {dC : Nat → ClassId} {dI : Nat → Nat → Nat} {tys : List (ClassId × FieldType)} {w : va_W} {A B : Nat → Prop} {As : List Value} {N : (Nat → Prop) → State → Prop} {locs : List Loc} (hP : va_P (dC, dI) vwCl w H) (hK : va_K (dC, dI) vwCl tys s) (hD : va_D B w) (hSt : Stab N) (hN : N A s) (hS : va_S A s.heap H locs) (hF : ∀ q, va_A w H.size q → A q) : PreS s H (va_Pc As (kPreX dC dI tys w H.size N)) As :=
  ⟨kBlindX hSt, fun U hU hW => ⟨rfl, kPreOf hP hK hD U hU hW, hSt.1 _ _ _ _ _ _ hN hS hW hU hF⟩⟩
theorem kPreVX {s : State} {H : Heap} {dC : Nat → ClassId} {dI : Nat → Nat → Nat} {tys : List (ClassId × FieldType)} {w : va_W} {A B : Nat → Prop} {As : List Value} {N : (Nat → Prop) → State → Prop} {locs : List Loc} {b ci q0 : Nat} {q : vw_C} {fs : List Value} (hP : va_P (dC, dI) vwCl w H) (hK : va_K (dC, dI) vwCl tys s) (hD : va_D B w) (hSt : Stab N) (hN : N A s) (hS : va_S A s.heap H locs) (hF : ∀ q, va_A w H.size q → A q) (hc : vwCl[ci]? = some q) (he : w[q0]? = some (b, .inr (ci, fs))) : PreV s H q.1 b (va_Pc (Value.ref b :: As) (kPreX dC dI tys w H.size N)) As :=
  ⟨kBlindX hSt, va_recv hK hP hc he, fun U hU hW => ⟨rfl, kPreOf hP hK hD U hU hW, hSt.1 _ _ _ _ _ _ hN hS hW hU hF⟩⟩
theorem kPreVS {s : State} {H : Heap} {dC : Nat → ClassId} {dI : Nat → Nat → Nat} {tys : List (ClassId × FieldType)} {w : va_W} {A B : Nat → Prop} {As : List Value} {N : (Nat → Prop) → State → Prop} {locs : List Loc} {b : Nat} (hP : va_P (dC, dI) vwCl w H) (hK : va_K (dC, dI) vwCl tys s) (hD : va_D B w) (hSt : Stab N) (hN : N A s) (hS : va_S A s.heap H locs) (hF : ∀ q, va_A w H.size q → A q) (hO : va_O "java/lang/String" b A s s.heap) : PreV s H "java/lang/String" b (va_Pc (Value.ref b :: As) (kPreX dC dI tys w H.size N)) As :=
  ⟨kBlindX hSt, by obtain ⟨cell, h1, h2, h3, -⟩ := hO.kept hS.2.1; exact ⟨cell, h1, h2, h3⟩, fun U hU hW => ⟨rfl, kPreOf hP hK hD U hU hW, hSt.1 _ _ _ _ _ _ hN hS hW hU hF⟩⟩
theorem kEnterX {l : Launch} {y : MethodName} {cc : ByteArray} {n : Nat} {ret : Option FieldType} {rm : Room} {Qc : Array Value → State → Outcome → State → Prop} {mc ms : Nat} {free : Addr → Prop} {dC : Nat → ClassId} {dI : Nat → Nat → Nat} {tys : List (ClassId × FieldType)} {w : va_W} {sz : Nat} {av : List Value} {N : (Nat → Prop) → State → Prop} (hy : plainName y.cls = true) (hlen : (lg_sl av).length ≤ n)
    (body : ∀ (p : Program) (e : Env) (s : State) (m : MethodId) (below : List Frame) (meth : Method) (c : Code) (ls : Array Slot), p.tables.exec = Jvm.exec → c.code = cc → meth.sig.returnType = ret → c.maxLocals = n → s.vm.findClass y.cls = some m.cls → meth.locks = false → meth.name = y.name → (∀ wd ∈ wsL_law, wd.before av.toArray s = true) → s.heap.size = sz → va_P (dC, dI) vwCl w s.heap → va_K (dC, dI) vwCl tys s → va_D (va_A w s.heap.size) w → N (va_A w s.heap.size) s → lv_has ls n (lv_args 0 av) → W p l e rm s m av.toArray below meth c s.heap [] 0 0 (MQ below Qc av.toArray s mc ms free) (F0 m 0 ls [])) :
    Met l y (kw y cc n ret) rm (va_Pc av (kPreX dC dI tys w sz N)) Qc mc ms free := by
  refine Met.ofW (cc := cc) (maxL := n) (ret := ret) hy rfl ?_
  intro p e s m args below meth c s₁ B hml hv
  obtain ⟨rfl, ⟨hsz, hP, hK, hD0⟩, hN⟩ := hv
  have hts := atoms_spec (ws := kw y cc n ret) B.pre
  have hl := lv_entry av (n := n) hlen
  rw [lg_entry_eq]
  exact body p e s m below meth c _ B.exec B.bytes B.returns hml (findClass_of_methodNamed B.named) B.notSynchronized (name_of_methodNamed B.named B.method).1 (fun wd h => hts wd (List.mem_cons_of_mem _ h)) hsz hP hK (hD0.self (sz := s.heap.size)) (by rw [hsz]; exact hN) hl
theorem of_len {n : Nat} (h : n ≤ 10) : (Int32.ofNat n).toInt = (n : Int) := by
  have e : n = 0 ∨ n = 1 ∨ n = 2 ∨ n = 3 ∨ n = 4 ∨ n = 5 ∨ n = 6 ∨ n = 7 ∨ n = 8 ∨ n = 9 ∨ n = 10 := by omega
  rcases e with rfl | rfl | rfl | rfl | rfl | rfl | rfl | rfl | rfl | rfl | rfl <;> decide
theorem sr_0 {x : Int32} : x >>> ((0 : Int32) &&& 31) = x := by
  have e : ((0 : Int32) &&& 31) = 0 := by decide
  rw [e]
  simp
