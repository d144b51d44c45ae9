-- MY OWN ROWS: the uniform shape of a contract over a fresh object
abbrev kw (y : MethodName) (c : ByteArray) (n : Nat) (r : Option FieldType) : List Cond := Cond.code y c n r :: wsL_law
theorem gI {y : MethodName} {c : ByteArray} {n : Nat} {r : Option FieldType} (h5 : Cond.code y c n r ∈ wsL_law) : GoodIn wsL_law (kw y c n r) := by
  intro w hw
  have hm : w ∈ wsL_law := by
    rcases List.mem_cons.mp hw with e | e
    · rw [e]; exact h5
    · exact e
  exact ⟨hm, good_of_word (wsL_mem _ hm)⟩
theorem gV {own C : String} {idx : Nat} {y : MethodName} {c : ByteArray} {n : Nat} {r : Option FieldType} (h1 : Cond.methodLink own idx y ∈ wsL_law) (h2 : Cond.instanceMethod y ∈ wsL_law) (h3 : Cond.selects C y y ∈ wsL_law) (h4 : Cond.initialized C ∈ wsL_law) (h5 : Cond.code y c n r ∈ wsL_law) : GoodIn wsL_law (wsV own idx C y (kw y c n r)) := by
  intro w hw
  have hm : w ∈ wsL_law := by
    rcases List.mem_append.mp hw with e | e
    · simp only [List.mem_cons, List.not_mem_nil, or_false] at e
      rcases e with e | e | e | e <;> rw [e] <;> assumption
    · exact (gI h5 w e).1
  exact ⟨hm, good_of_word (wsL_mem _ hm)⟩
theorem gS {own : String} {idx : Nat} {y : MethodName} {c : ByteArray} {n : Nat} {r : Option FieldType} (h1 : Cond.methodLink own idx y ∈ wsL_law) (h2 : Cond.static y ∈ wsL_law) (h4 : Cond.initialized own ∈ wsL_law) (h5 : Cond.code y c n r ∈ wsL_law) : GoodIn wsL_law (wsS own idx y (kw y c n r)) := by
  intro w hw
  have hm : w ∈ wsL_law := by
    rcases List.mem_append.mp hw with e | e
    · simp only [List.mem_cons, List.not_mem_nil, or_false] at e
      rcases e with e | e | e <;> rw [e] <;> assumption
    · exact (gI h5 w e).1
  exact ⟨hm, good_of_word (wsL_mem _ hm)⟩
/-- a start: the cells w, apart; the classes as the tables have them -/
def kPre (dC : Nat → ClassId) (dI : Nat → Nat → Nat) (tys : List (ClassId × FieldType)) (w : va_W) (sz : Nat) (U : State) : Prop := U.heap.size = sz ∧ va_P (dC, dI) vwCl w U.heap ∧ va_K (dC, dI) vwCl tys U ∧ va_D (fun _ => True) w
/-- the same, with words on nest mates and arrays of references beside it -/
def kPreN (dC : Nat → ClassId) (dI : Nat → Nat → Nat) (tys : List (ClassId × FieldType)) (w : va_W) (sz : Nat) (N : State → Prop) (U : State) : Prop := kPre dC dI tys w sz U ∧ N U
theorem kBlind {dC : Nat → ClassId} {dI : Nat → Nat → Nat} {tys : List (ClassId × FieldType)} {w : va_W} {sz : Nat} {av : List Value} : FrameBlind (va_Pc av (kPre dC dI tys w sz)) := fun a U g mk q => by
  obtain ⟨q0, q1, qP, qK, qD⟩ := q
  exact ⟨q0, q1, qP, va_K.moved (u := U) (U := U.calling g mk a) (Vm.Alike.refl U.vm) qK, qD⟩
theorem kPreOf {s : State} {H : Heap} {dC : Nat → ClassId} {dI : Nat → Nat → Nat} {tys : List (ClassId × FieldType)} {w : va_W} {A : Nat → Prop} (hP : va_P (dC, dI) vwCl w H) (hK : va_K (dC, dI) vwCl tys s) (hD : va_D A w) : ∀ U : State, U.heap = H → s.WarmedH U.vm → kPre dC dI tys w H.size U :=
  fun U hU hW => ⟨by rw [hU], by rw [hU]; exact hP, va_K.moved hW.alike hK, hD.weaken (fun _ _ _ _ => trivial)⟩
theorem kPreS {s : State} {H : Heap} {dC : Nat → ClassId} {dI : Nat → Nat → Nat} {tys : List (ClassId × FieldType)} {w : va_W} {A : Nat → Prop} {As : List Value} (hP : va_P (dC, dI) vwCl w H) (hK : va_K (dC, dI) vwCl tys s) (hD : va_D A w) : PreS s H (va_Pc As (kPre dC dI tys w H.size)) As :=
  ⟨kBlind, fun U hU hW => ⟨rfl, kPreOf hP hK hD U hU hW⟩⟩
theorem kPreV {s : State} {H : Heap} {dC : Nat → ClassId} {dI : Nat → Nat → Nat} {tys : List (ClassId × FieldType)} {w : va_W} {A : Nat → Prop} {As : List Value} {b ci q0 : Nat} {q : vw_C} {fs : List Value} (hP : va_P (dC, dI) vwCl w H) (hK : va_K (dC, dI) vwCl tys s) (hD : va_D A w) (hc : vwCl[ci]? = some q) (he : w[q0]? = some (b, .inr (ci, fs))) : PreV s H q.1 b (va_Pc (Value.ref b :: As) (kPre dC dI tys w H.size)) As :=
  ⟨kBlind, va_recv hK hP hc he, fun U hU hW => ⟨rfl, kPreOf hP hK hD U hU hW⟩⟩
theorem kPreSN {s : State} {H : Heap} {dC : Nat → ClassId} {dI : Nat → Nat → Nat} {tys : List (ClassId × FieldType)} {w : va_W} {A : Nat → Prop} {As : List Value} {N : State → Prop} (hP : va_P (dC, dI) vwCl w H) (hK : va_K (dC, dI) vwCl tys s) (hD : va_D A w) (hb : ∀ (a : Array Value) (U : State) (g : JFrame) (mk : MethodId), N U → N (U.calling g mk a)) (hN : ∀ U : State, s.WarmedH U.vm → N U) : PreS s H (va_Pc As (kPreN dC dI tys w H.size N)) As :=
  ⟨fun a U g mk q => ⟨q.1, (kBlind (av := As) a U g mk ⟨q.1, q.2.1⟩).2, hb a U g mk q.2.2⟩, fun U hU hW => ⟨rfl, kPreOf hP hK hD U hU hW, hN U hW⟩⟩
theorem kP0 {D : va_G} {cl : List vw_C} {H : Heap} : va_P D cl [] H := fun k q h => by simp at h
theorem kD0 {A : Nat → Prop} : va_D A [] := ⟨fun i j p q h => by simp at h, fun k q h => by simp at h⟩
theorem vin {i : Int32} {n : Nat} (h : ¬ (i < 0 ∨ n ≤ i.toNatClampNeg)) : vp_in i n := h
theorem ka_last {D : va_G} {cl : List vw_C} {tys : List (ClassId × FieldType)} {s : State} {c : ClassId} {ty : FieldType} (h : va_K D cl (tys ++ [(c, ty)]) s) : va_RA s c ty := (h.2 tys.length (c, ty) (by simp)).2
theorem ka_int {D : va_G} {cl : List vw_C} {tys : List (ClassId × FieldType)} {s : State} {c c1 : ClassId} {k : Nat} (hK : va_K D cl tys s) (hk : tys[k]? = some (c, .int)) (h : va_K D cl (tys ++ [(c1, .int)]) s) : c = c1 := Option.some.inj (((hK.2 k _ hk).2 : s.vm.findClass _ = some c).symm.trans (ka_last h : s.vm.findClass _ = some c1))
theorem ka_boolean {D : va_G} {cl : List vw_C} {tys : List (ClassId × FieldType)} {s : State} {c c1 : ClassId} {k : Nat} (hK : va_K D cl tys s) (hk : tys[k]? = some (c, .boolean)) (h : va_K D cl (tys ++ [(c1, .boolean)]) s) : c = c1 := Option.some.inj (((hK.2 k _ hk).2 : s.vm.findClass _ = some c).symm.trans (ka_last h : s.vm.findClass _ = some c1))
theorem ka_byte {D : va_G} {cl : List vw_C} {tys : List (ClassId × FieldType)} {s : State} {c c1 : ClassId} {k : Nat} (hK : va_K D cl tys s) (hk : tys[k]? = some (c, .byte)) (h : va_K D cl (tys ++ [(c1, .byte)]) s) : c = c1 := Option.some.inj (((hK.2 k _ hk).2 : s.vm.findClass _ = some c).symm.trans (ka_last h : s.vm.findClass _ = some c1))
theorem ka_long {D : va_G} {cl : List vw_C} {tys : List (ClassId × FieldType)} {s : State} {c c1 : ClassId} {k : Nat} (hK : va_K D cl tys s) (hk : tys[k]? = some (c, .long)) (h : va_K D cl (tys ++ [(c1, .long)]) s) : c = c1 := Option.some.inj (((hK.2 k _ hk).2 : s.vm.findClass _ = some c).symm.trans (ka_last h : s.vm.findClass _ = some c1))
theorem ka_obj {D : va_G} {cl : List vw_C} {tys : List (ClassId × FieldType)} {s : State} {c c1 : ClassId} {C : String} {k : Nat} (hK : va_K D cl tys s) (hk : tys[k]? = some (c, .object C)) (h : va_K D cl (tys ++ [(c1, .object C)]) s) : c = c1 := by
  obtain ⟨-, -, -, -, -, e1⟩ := (hK.2 k _ hk).2
  obtain ⟨-, -, -, -, -, e2⟩ := ka_last h
  exact Option.some.inj (e1.symm.trans e2)
/-- addresses by their places -/
def pick : List Nat → Nat → Nat
  | [], _ => 0
  | a :: _, 0 => a
  | _ :: l, n + 1 => pick l n
theorem kEnter {l : Launch} {y : MethodName} {cc : ByteArray} {n : Nat} {ret : Option FieldType} {rm : Room} {Qc : Array Value → State → Outcome → State → Prop} {mc ms : Nat} {free : Addr → Prop} {dC : Nat → ClassId} {dI : Nat → Nat → Nat} {tys : List (ClassId × FieldType)} {w : va_W} {sz : Nat} {av : List Value} (hy : plainName y.cls = true) (hlen : (lg_sl av).length ≤ n)
    (body : ∀ (p : Program) (e : Env) (s : State) (m : MethodId) (below : List Frame) (meth : Method) (c : Code) (ls : Array Slot), p.tables.exec = Jvm.exec → c.code = cc → meth.sig.returnType = ret → c.maxLocals = n → s.vm.findClass y.cls = some m.cls → meth.locks = false → meth.name = y.name → (∀ wd ∈ wsL_law, wd.before av.toArray s = true) → s.heap.size = sz → va_P (dC, dI) vwCl w s.heap → va_K (dC, dI) vwCl tys s → va_D (va_A w s.heap.size) w → lv_has ls n (lv_args 0 av) → W p l e rm s m av.toArray below meth c s.heap [] 0 0 (MQ below Qc av.toArray s mc ms free) (F0 m 0 ls [])) :
    Met l y (kw y cc n ret) rm (va_Pc av (kPre dC dI tys w sz)) Qc mc ms free := by
  refine Met.ofW (cc := cc) (maxL := n) (ret := ret) hy rfl ?_
  intro p e s m args below meth c s₁ B hml hv
  obtain ⟨rfl, hsz, hP, hK, hD0⟩ := hv
  have hts := atoms_spec (ws := kw y cc n ret) B.pre
  have hl := lv_entry av (n := n) hlen
  rw [lg_entry_eq]
  exact body p e s m below meth c _ B.exec B.bytes B.returns hml (findClass_of_methodNamed B.named) B.notSynchronized (name_of_methodNamed B.named B.method).1 (fun wd h => hts wd (List.mem_cons_of_mem _ h)) hsz hP hK (hD0.self (sz := s.heap.size)) hl
theorem kEnterN {l : Launch} {y : MethodName} {cc : ByteArray} {n : Nat} {ret : Option FieldType} {rm : Room} {Qc : Array Value → State → Outcome → State → Prop} {mc ms : Nat} {free : Addr → Prop} {dC : Nat → ClassId} {dI : Nat → Nat → Nat} {tys : List (ClassId × FieldType)} {w : va_W} {sz : Nat} {av : List Value} {N : State → Prop} (hy : plainName y.cls = true) (hlen : (lg_sl av).length ≤ n)
    (body : ∀ (p : Program) (e : Env) (s : State) (m : MethodId) (below : List Frame) (meth : Method) (c : Code) (ls : Array Slot), p.tables.exec = Jvm.exec → c.code = cc → meth.sig.returnType = ret → c.maxLocals = n → s.vm.findClass y.cls = some m.cls → meth.locks = false → meth.name = y.name → (∀ wd ∈ wsL_law, wd.before av.toArray s = true) → s.heap.size = sz → va_P (dC, dI) vwCl w s.heap → va_K (dC, dI) vwCl tys s → va_D (va_A w s.heap.size) w → N s → lv_has ls n (lv_args 0 av) → W p l e rm s m av.toArray below meth c s.heap [] 0 0 (MQ below Qc av.toArray s mc ms free) (F0 m 0 ls [])) :
    Met l y (kw y cc n ret) rm (va_Pc av (kPreN dC dI tys w sz N)) Qc mc ms free := by
  refine Met.ofW (cc := cc) (maxL := n) (ret := ret) hy rfl ?_
  intro p e s m args below meth c s₁ B hml hv
  obtain ⟨rfl, ⟨hsz, hP, hK, hD0⟩, hN⟩ := hv
  have hts := atoms_spec (ws := kw y cc n ret) B.pre
  have hl := lv_entry av (n := n) hlen
  rw [lg_entry_eq]
  exact body p e s m below meth c _ B.exec B.bytes B.returns hml (findClass_of_methodNamed B.named) B.notSynchronized (name_of_methodNamed B.named B.method).1 (fun wd h => hts wd (List.mem_cons_of_mem _ h)) hsz hP hK (hD0.self (sz := s.heap.size)) hN hl
-- plain facts on ints
theorem ki_lt (a b : Int32) : a < b ↔ a.toInt < b.toInt := Int32.lt_iff_toInt_lt
theorem ki_le (a b : Int32) : a ≤ b ↔ a.toInt ≤ b.toInt := Int32.le_iff_toInt_le
theorem ki_eq (a b : Int32) : a = b ↔ a.toInt = b.toInt := ⟨fun h => by rw [h], fun h => Int32.toInt_inj.mp h⟩
theorem sw_5 {x : Int32} (h1 : ¬ x.toInt < 0) (h2 : ¬ 5 < x.toInt) : x = 0 ∨ x = 1 ∨ x = 2 ∨ x = 3 ∨ x = 4 ∨ x = 5 := by
  simp only [ki_eq]
  have e0 : (0 : Int32).toInt = 0 := by decide
  have e1 : (1 : Int32).toInt = 1 := by decide
  have e2 : (2 : Int32).toInt = 2 := by decide
  have e3 : (3 : Int32).toInt = 3 := by decide
  have e4 : (4 : Int32).toInt = 4 := by decide
  have e5 : (5 : Int32).toInt = 5 := by decide
  omega
theorem sw_11 {x : Int32} (h1 : ¬ x.toInt < 0) (h2 : ¬ 11 < x.toInt) : x = 0 ∨ x = 1 ∨ x = 2 ∨ x = 3 ∨ x = 4 ∨ x = 5 ∨ x = 6 ∨ x = 7 ∨ x = 8 ∨ x = 9 ∨ x = 10 ∨ x = 11 := by
  simp only [ki_eq]
  have e0 : (0 : Int32).toInt = 0 := by decide
  have e1 : (1 : Int32).toInt = 1 := by decide
  have e2 : (2 : Int32).toInt = 2 := by decide
  have e3 : (3 : Int32).toInt = 3 := by decide
  have e4 : (4 : Int32).toInt = 4 := by decide
  have e5 : (5 : Int32).toInt = 5 := by decide
  have e6 : (6 : Int32).toInt = 6 := by decide
  have e7 : (7 : Int32).toInt = 7 := by decide
  have e8 : (8 : Int32).toInt = 8 := by decide
  have e9 : (9 : Int32).toInt = 9 := by decide
  have e10 : (10 : Int32).toInt = 10 := by decide
  have e11 : (11 : Int32).toInt = 11 := by decide
  omega
theorem kz_m8 : (-8 : Int32).toInt = -8 := by decide
theorem kz_m7 : (-7 : Int32).toInt = -7 := by decide
theorem kz_m6 : (-6 : Int32).toInt = -6 := by decide
theorem kz_m4 : (-4 : Int32).toInt = -4 := by decide
theorem kz_m3 : (-3 : Int32).toInt = -3 := by decide
theorem kz_m2 : (-2 : Int32).toInt = -2 := by decide
theorem kz_m1 : (-1 : Int32).toInt = -1 := by decide
theorem kz_0 : (0 : Int32).toInt = 0 := by decide
theorem kz_1 : (1 : Int32).toInt = 1 := by decide
theorem kz_2 : (2 : Int32).toInt = 2 := by decide
theorem kz_3 : (3 : Int32).toInt = 3 := by decide
theorem kz_4 : (4 : Int32).toInt = 4 := by decide
theorem kz_5 : (5 : Int32).toInt = 5 := by decide
theorem kz_6 : (6 : Int32).toInt = 6 := by decide
theorem kz_7 : (7 : Int32).toInt = 7 := by decide
theorem kz_8 : (8 : Int32).toInt = 8 := by decide
theorem kz_9 : (9 : Int32).toInt = 9 := by decide
theorem kz_10 : (10 : Int32).toInt = 10 := by decide
theorem kz_11 : (11 : Int32).toInt = 11 := by decide
theorem kz_20 : (20 : Int32).toInt = 20 := by decide
theorem kz_60 : (60 : Int32).toInt = 60 := by decide
-- the reference's 'in'
def in_sp (v lo hi : Int64) : Int32 := if v < lo then 0 else if hi < v then 0 else 1
theorem lc_lt {x y : Int64} : lg_cmp x y < 0 ↔ x < y := by
  unfold lg_cmp
  by_cases h : y < x
  · have h2 : ¬ x < y := fun q => absurd (Int64.lt_iff_toInt_lt.mp q) (by have := Int64.lt_iff_toInt_lt.mp h; omega)
    simp [h, h2]
  · by_cases h2 : x = y
    · subst h2
      simp [h]
    · have h3 : x < y := by
        rcases Int.lt_trichotomy x.toInt y.toInt with q | q | q
        · exact Int64.lt_iff_toInt_lt.mpr q
        · exact absurd (Int64.toInt_inj.mp q) h2
        · exact absurd (Int64.lt_iff_toInt_lt.mpr q) h
      simp [h, h2, h3]
theorem lc_gt {x y : Int64} : 0 < lg_cmp x y ↔ y < x := by
  unfold lg_cmp
  by_cases h : y < x
  · simp [h]
  · by_cases h2 : x = y
    · simp [h, h2]
    · simp [h, h2]
theorem kl_lt (a b : Int32) : a.toInt64 < b.toInt64 ↔ a < b := by
  rw [Int64.lt_iff_toInt_lt, Int32.lt_iff_toInt_lt, Int32.toInt_toInt64, Int32.toInt_toInt64]
theorem in_or {p : Int32} {lo hi : Int64} (a b : Int32) (ha : a.toInt64 = lo) (hb : b.toInt64 = hi) : (in_sp p.toInt64 lo hi = 0 ∧ (p < a ∨ b < p)) ∨ (in_sp p.toInt64 lo hi = 1 ∧ ¬ p < a ∧ ¬ b < p) := by
  subst ha
  subst hb
  unfold in_sp
  simp only [kl_lt]
  by_cases h1 : p < a
  · exact Or.inl ⟨by simp [h1], Or.inl h1⟩
  · by_cases h2 : b < p
    · exact Or.inl ⟨by simp [h1, h2], Or.inr h2⟩
    · exact Or.inr ⟨by simp [h1, h2], h1, h2⟩
theorem in_no (p : Int32) : in_sp p.toInt64 0 (-1) = 0 := by
  rcases in_or (p := p) (lo := 0) (hi := -1) 0 (-1) (by decide) (by decide) with ⟨e, -⟩ | ⟨-, h1, h2⟩
  · exact e
  · exfalso
    simp only [ki_lt, kz_0, kz_m1] at h1 h2
    omega
theorem k3lt {p : Int32} (h1 : ¬ p < 0) (h2 : p < 3) : p = 0 ∨ p = 1 ∨ p = 2 := by
  simp only [ki_lt, ki_eq, kz_0, kz_1, kz_2, kz_3] at h1 h2 ⊢
  omega
theorem k3le {p : Int32} (h1 : ¬ p < 0) (h2 : ¬ 2 < p) : p = 0 ∨ p = 1 ∨ p = 2 := by
  simp only [ki_lt, ki_eq, kz_0, kz_1, kz_2] at h1 h2 ⊢
  omega
theorem k4le {p : Int32} (h1 : ¬ p < 0) (h2 : ¬ 3 < p) : p = 0 ∨ p = 1 ∨ p = 2 ∨ p = 3 := by
  simp only [ki_lt, ki_eq, kz_0, kz_1, kz_2, kz_3] at h1 h2 ⊢
  omega
theorem upd_z (k : Nat) : upd (fun _ => (0 : Int32)) k 0 = (fun _ => 0) := by
  funext j
  simp [upd]
theorem upd_id (f : Nat → Int32) (k : Nat) : upd f k (f k) = f := by
  funext j
  simp only [upd]
  split
  · rename_i h
    rw [h]
  · rfl
theorem vp_base (B i N : Nat) (h : B + i < N) (hN : N < 2 ^ 31) : vp_in (nI B + nI i) N := by
  rw [nI_add]
  exact vp_in_nI h hN
-- what the calls of several answers answer on a fresh object
def Sp_slot (p0 r : Int32) : Prop := (r = 1 ∧ ¬ p0 < 0 ∧ ¬ 3 < p0) ∨ (r = 0 ∧ (p0 < 0 ∨ 3 < p0))
def Sp_end (p0 r : Int32) : Prop := (p0.toInt = 0 ∧ r.toInt = 0) ∨ (p0.toInt ≠ 0 ∧ r.toInt = -1)
def Sp_fault (p0 r : Int32) : Prop := (p0.toInt = 0 ∧ r.toInt = 0) ∨ (p0.toInt ≠ 0 ∧ r.toInt = -1)
def Sp_stands (p0 r : Int32) : Prop := (0 ≤ p0.toInt ∧ p0.toInt ≤ 5 ∧ r.toInt = 0) ∨ ((p0.toInt < 0 ∨ 5 < p0.toInt) ∧ r.toInt = -1)
def Sp_count (p0 r : Int32) : Prop := (0 ≤ p0.toInt ∧ p0.toInt ≤ 11 ∧ r.toInt = 0) ∨ ((p0.toInt < 0 ∨ 11 < p0.toInt) ∧ r.toInt = -1)
def Sp_keep (p0 r : Int32) : Prop := (0 ≤ p0.toInt ∧ p0.toInt ≤ 2 ∧ r.toInt = 0) ∨ ((p0.toInt < 0 ∨ 2 < p0.toInt) ∧ r.toInt = -2)
def Sp_back (p0 r : Int32) : Prop := (0 ≤ p0.toInt ∧ p0.toInt ≤ 2 ∧ r.toInt = -6) ∨ ((p0.toInt < 0 ∨ 2 < p0.toInt) ∧ r.toInt = -2)
def Sp_row (p0 p1 p2 r : Int32) : Prop := ((p0.toInt < 0 ∨ 3 < p0.toInt ∨ p1.toInt < 0 ∨ 3 < p1.toInt ∨ 60 < p2.toInt) ∧ r.toInt = -2) ∨ ((0 ≤ p0.toInt ∧ p0.toInt ≤ 3 ∧ 0 ≤ p1.toInt ∧ p1.toInt ≤ 3 ∧ p2.toInt ≤ 60) ∧ ((p2.toInt < 0 ∧ r.toInt = -3) ∨ (0 ≤ p2.toInt ∧ r.toInt = 0)))
def Sp_write (p0 r : Int32) : Prop := (0 ≤ p0.toInt ∧ p0.toInt ≤ 3 ∧ r.toInt = -6) ∨ ((p0.toInt < 0 ∨ 3 < p0.toInt) ∧ r.toInt = -2)
def Sp_paste (p0 p2 r : Int32) : Prop := (0 ≤ p0.toInt ∧ p0.toInt ≤ 3 ∧ 0 ≤ p2.toInt ∧ p2.toInt ≤ 3 ∧ r.toInt = -6) ∨ ((p0.toInt < 0 ∨ 3 < p0.toInt ∨ p2.toInt < 0 ∨ 3 < p2.toInt) ∧ r.toInt = -2)
-- nest mates and arrays of references: words that a constructor needs beside the tables'
def va_AOA (ty : FieldType) (U : State) : Prop := (Cond.arrayOver (.array ty)).before #[] U = true
theorem va_AOA.use {ty : FieldType} {A : Array Value} {U : State} (h : va_AOA ty U) : (Cond.arrayOver (.array ty)).before A U = true := h
def nM (U : State) : Prop := va_Nw (.methodLinkNest RX2 11 yX3_init RX11) U ∧ va_Nw (.methodLinkNest RX2 20 yX1_init RX11) U ∧ va_Nw (.methodLinkNest RX2 27 yX4_init RX11) U ∧ va_Nw (.methodLinkNest RX2 34 yX7_init RX11) U
theorem nM_blind (a : Array Value) (U : State) (g : JFrame) (mk : MethodId) (h : nM U) : nM (U.calling g mk a) := ⟨va_Nw.same rfl rfl h.1, va_Nw.same rfl rfl h.2.1, va_Nw.same rfl rfl h.2.2.1, va_Nw.same rfl rfl h.2.2.2⟩
theorem nM_warm {s : State} (h : nM s) (U : State) (hW : s.WarmedH U.vm) : nM U := ⟨va_Nw.warmM hW h.1, va_Nw.warmM hW h.2.1, va_Nw.warmM hW h.2.2.1, va_Nw.warmM hW h.2.2.2⟩
