-- MY OWN ROWS: ranges of contents, arithmetic without overflow, facts in Int
def rng (f : Nat → Int32) (n : Nat) (lo hi : Int) : Prop := ∀ k, k < n → lo ≤ (f k).toInt ∧ (f k).toInt ≤ hi
theorem rng_upd {f : Nat → Int32} {n k : Nat} {lo hi : Int} {x : Int32} (h : rng f n lo hi) (h1 : lo ≤ x.toInt) (h2 : x.toInt ≤ hi) : rng (upd f k x) n lo hi := by
  intro j hj
  simp only [upd]
  split
  · exact ⟨h1, h2⟩
  · exact h j hj
theorem rng_0 {n : Nat} {lo hi : Int} (h1 : lo ≤ 0) (h2 : 0 ≤ hi) : rng (fun _ => 0) n lo hi := fun k _ => by
  have h0 : (0 : Int32).toInt = 0 := by decide
  show lo ≤ (0 : Int32).toInt ∧ (0 : Int32).toInt ≤ hi
  exact ⟨by omega, by omega⟩
theorem rng_mono {f : Nat → Int32} {n : Nat} {lo hi lo2 hi2 : Int} (h : rng f n lo hi) (h1 : lo2 ≤ lo) (h2 : hi ≤ hi2) : rng f n lo2 hi2 := fun k hk => ⟨by have := h k hk; omega, by have := h k hk; omega⟩
theorem rng_cpy {f g : Nat → Int32} {n sp dp m nf : Nat} {lo hi : Int} (hf : rng f nf lo hi) (hg : rng g n lo hi) (hs : sp + m ≤ nf) : rng (va_cpy f g sp dp m) n lo hi := by
  intro j hj
  unfold va_cpy
  split
  · rename_i q
    exact hf _ (by omega)
  · exact hg j hj
theorem vp_nat {i : Int32} {n : Nat} (h : vp_in i n) : i.toNatClampNeg < n := Nat.not_le.mp fun q => h (Or.inr q)
theorem vp_of {i : Int32} {n : Nat} (h1 : 0 ≤ i.toInt) (h2 : i.toInt < n) : vp_in i n := vp_in_iff.mpr ⟨h1, h2⟩
theorem ia_add {a b : Int32} (h1 : -2147483648 ≤ a.toInt + b.toInt) (h2 : a.toInt + b.toInt ≤ 2147483647) : (a + b).toInt = a.toInt + b.toInt := by
  rw [Int32.toInt_add]
  exact Int.bmod_eq_of_le (by omega) (by omega)
theorem ia_sub {a b : Int32} (h1 : -2147483648 ≤ a.toInt - b.toInt) (h2 : a.toInt - b.toInt ≤ 2147483647) : (a - b).toInt = a.toInt - b.toInt := by
  rw [Int32.toInt_sub]
  exact Int.bmod_eq_of_le (by omega) (by omega)
theorem ia_mul {a b : Int32} (h1 : -2147483648 ≤ a.toInt * b.toInt) (h2 : a.toInt * b.toInt ≤ 2147483647) : (a * b).toInt = a.toInt * b.toInt := by
  rw [Int32.toInt_mul]
  exact Int.bmod_eq_of_le (by omega) (by omega)
theorem ia_mulr {a b : Int32} (n : Int) (hn : b.toInt = n) (h1 : -2147483648 ≤ a.toInt * n) (h2 : a.toInt * n ≤ 2147483647) : (a * b).toInt = a.toInt * n := by
  subst hn
  exact ia_mul h1 h2
theorem ia_mull {a b : Int32} (n : Int) (hn : a.toInt = n) (h1 : -2147483648 ≤ n * b.toInt) (h2 : n * b.toInt ≤ 2147483647) : (a * b).toInt = n * b.toInt := by
  subst hn
  exact ia_mul h1 h2
/-- any of a list, by its place -/
def pickG {α : Type} (d : α) : List α → Nat → α
  | [], _ => d
  | a :: _, 0 => a
  | _ :: l, n + 1 => pickG d l n
theorem mx_max (x y : Int32) : x.toInt ≤ (if x < y then y else x).toInt ∧ y.toInt ≤ (if x < y then y else x).toInt ∧ ((if x < y then y else x).toInt = x.toInt ∨ (if x < y then y else x).toInt = y.toInt) := by
  by_cases h : x < y
  · rw [if_pos h]
    rw [ki_lt] at h
    omega
  · rw [if_neg h]
    rw [ki_lt] at h
    omega
theorem mx_min (x y : Int32) : (if y < x then y else x).toInt ≤ x.toInt ∧ (if y < x then y else x).toInt ≤ y.toInt ∧ ((if y < x then y else x).toInt = x.toInt ∨ (if y < x then y else x).toInt = y.toInt) := by
  by_cases h : y < x
  · rw [if_pos h]
    rw [ki_lt] at h
    omega
  · rw [if_neg h]
    rw [ki_lt] at h
    omega
theorem mx_abs {x : Int32} (h0 : -2147483648 < x.toInt) : 0 ≤ (if 0 ≤ x then x else 0 - x).toInt ∧ ((if 0 ≤ x then x else 0 - x).toInt = x.toInt ∨ (if 0 ≤ x then x else 0 - x).toInt = -x.toInt) := by
  have k0 : (0 : Int32).toInt = 0 := by decide
  have hi := x.toInt_lt
  by_cases h : (0 : Int32) ≤ x
  · rw [if_pos h]
    rw [ki_le] at h
    omega
  · rw [if_neg h]
    rw [ki_le] at h
    have q := ia_sub (a := 0) (b := x) (by omega) (by omega)
    omega
theorem gSJ {own : String} {idx : Nat} {y : MethodName} {c : ByteArray} {n : Nat} {r : Option FieldType} (h1 : Cond.methodLink own idx y ∈ wsL_law) (h2 : Cond.static y ∈ wsL_law) (h4 : Cond.initialized y.cls ∈ wsL_law) (h5 : Cond.code y c n r ∈ wsL_law) : GoodIn wsL_law (va_wsS own idx y (kw y c n r)) := by
  intro w hw
  have hm : w ∈ wsL_law := by
    rcases List.mem_append.mp hw with e | e
    · simp only [List.mem_cons, List.not_mem_nil, or_false] at e
      rcases e with e | e | e <;> rw [e] <;> assumption
    · exact (gI h5 w e).1
  exact ⟨hm, good_of_word (wsL_mem _ hm)⟩
theorem i32_b (x : Int32) : -2147483648 ≤ x.toInt ∧ x.toInt ≤ 2147483647 := ⟨x.le_toInt, by have := x.toInt_lt; omega⟩
theorem i32_lo {x : Int32} : -2147483648 ≤ x.toInt := (i32_b x).1
theorem i32_hi {x : Int32} : x.toInt ≤ 2147483647 := (i32_b x).2
theorem rng_00 (n : Nat) : rng (fun _ => 0) n 0 0 := rng_0 (by omega) (by omega)
theorem rng_cpyA {f g : Nat → Int32} {n sp dp m : Nat} {lo hi : Int} (hf : rng f n lo hi) (h : sp = 0 ∧ dp = 0 ∧ m = n) : rng (va_cpy f g sp dp m) n lo hi := by
  obtain ⟨h1, h2, h3⟩ := h
  intro j hj
  unfold va_cpy
  split
  · rename_i q
    exact hf _ (by omega)
  · rename_i q
    exfalso
    exact q (by omega)
theorem ia_neg {a : Int32} (h : -2147483648 < a.toInt) : (-a).toInt = -a.toInt := by
  have hi := (i32_b a).2
  rw [Int32.toInt_neg]
  exact Int.bmod_eq_of_le (by omega) (by omega)
theorem ia_and {a m : Int32} (h : 0 ≤ m.toInt) : 0 ≤ (a &&& m).toInt ∧ (a &&& m).toInt ≤ m.toInt := by
  have e : (a &&& m).toBitVec = a.toBitVec &&& m.toBitVec := Int32.toBitVec_and a m
  have h2 : 2 * m.toBitVec.toNat < 2 ^ 32 := BitVec.toInt_pos_iff.mp h
  have h3 : (a &&& m).toBitVec.toNat ≤ m.toBitVec.toNat := by
    rw [e, BitVec.toNat_and]
    exact Nat.and_le_right
  have q1 : (a &&& m).toBitVec.toInt = (a &&& m).toBitVec.toNat := BitVec.toInt_eq_toNat_of_lt (by omega)
  have q2 : m.toBitVec.toInt = m.toBitVec.toNat := BitVec.toInt_eq_toNat_of_lt h2
  have q3 : (a &&& m).toInt = (a &&& m).toBitVec.toInt := rfl
  have q4 : m.toInt = m.toBitVec.toInt := rfl
  omega
theorem ix_sgn {a b : Int32} (h : 0 ≤ b.toInt) : 0 ≤ (a ^^^ b).toInt ↔ 0 ≤ a.toInt := by
  have e : (a ^^^ b).toBitVec = a.toBitVec ^^^ b.toBitVec := Int32.toBitVec_xor a b
  have m : (a ^^^ b).toBitVec.msb = (a.toBitVec.msb ^^ b.toBitVec.msb) := by rw [e, BitVec.msb_xor]
  rw [BitVec.msb_eq_toInt, BitVec.msb_eq_toInt, BitVec.msb_eq_toInt] at m
  have q1 : (a ^^^ b).toInt = (a ^^^ b).toBitVec.toInt := rfl
  have q2 : a.toInt = a.toBitVec.toInt := rfl
  have q3 : b.toInt = b.toBitVec.toInt := rfl
  rw [q3] at h
  have hb : decide (b.toBitVec.toInt < 0) = false := decide_eq_false (by omega)
  rw [hb, Bool.xor_false] at m
  have m2 := decide_eq_decide.mp m
  omega
theorem tm_pos {a b : Int} (ha : 0 ≤ a) (hb : 0 < b) : 0 ≤ a.tmod b ∧ a.tmod b < b ∧ 0 ≤ b * a.tdiv b ∧ a.tmod b = a - b * a.tdiv b :=
  ⟨Int.tmod_nonneg b ha, Int.tmod_lt_of_pos a hb, Int.mul_nonneg (by omega) (Int.tdiv_nonneg ha (by omega)), Int.tmod_def a b⟩
theorem tm_neg {a b : Int} (ha : a < 0) (hb : 0 < b) : a.tmod b ≤ 0 ∧ -b < a.tmod b ∧ b * a.tdiv b ≤ 0 ∧ a.tmod b = a - b * a.tdiv b := by
  have h := tm_pos (a := -a) (by omega) hb
  rw [Int.neg_tmod, Int.neg_tdiv, Int.mul_neg] at h
  have h2 := Int.tmod_def a b
  exact ⟨by omega, by omega, by omega, h2⟩
theorem ir_eq {a b : Int32} (hb : 0 < b.toInt) : (a - a / b * b).toInt = a.toInt.tmod b.toInt ∧ (a / b).toInt = a.toInt.tdiv b.toInt := by
  have hne : b ≠ -1 := by
    intro e
    rw [e] at hb
    exact absurd hb (by decide)
  have h1 : (a / b).toInt = a.toInt.tdiv b.toInt := Int32.toInt_div_of_ne_right a b hne
  have hc : (a / b).toInt * b.toInt = b.toInt * a.toInt.tdiv b.toInt := by rw [h1, Int.mul_comm]
  obtain ⟨al, ah⟩ := i32_b a
  have key : (-2147483648 ≤ b.toInt * a.toInt.tdiv b.toInt ∧ b.toInt * a.toInt.tdiv b.toInt ≤ 2147483647) ∧ a.toInt.tmod b.toInt = a.toInt - b.toInt * a.toInt.tdiv b.toInt ∧ -2147483648 ≤ a.toInt.tmod b.toInt ∧ a.toInt.tmod b.toInt ≤ 2147483647 := by
    obtain ⟨bl, bh⟩ := i32_b b
    rcases (show a.toInt < 0 ∨ 0 ≤ a.toInt by omega) with q | q
    · obtain ⟨z1, z2, z3, z4⟩ := tm_neg q hb
      exact ⟨⟨by omega, by omega⟩, z4, by omega, by omega⟩
    · obtain ⟨z1, z2, z3, z4⟩ := tm_pos q hb
      exact ⟨⟨by omega, by omega⟩, z4, by omega, by omega⟩
  obtain ⟨⟨k1, k2⟩, k3, k4, k5⟩ := key
  have h2 : (a / b * b).toInt = b.toInt * a.toInt.tdiv b.toInt := by
    rw [ia_mul (by rw [hc]; exact k1) (by rw [hc]; exact k2), hc]
  have h3 := ia_sub (a := a) (b := a / b * b) (by omega) (by omega)
  exact ⟨by omega, h1⟩
theorem ir_pos {a b : Int32} (ha : 0 ≤ a.toInt) (hb : 0 < b.toInt) : 0 ≤ (a - a / b * b).toInt ∧ (a - a / b * b).toInt < b.toInt := by
  obtain ⟨z1, z2, -, -⟩ := tm_pos ha hb
  rw [(ir_eq hb).1]
  exact ⟨z1, z2⟩
theorem ir_any {a b : Int32} (hb : 0 < b.toInt) : -b.toInt < (a - a / b * b).toInt ∧ (a - a / b * b).toInt < b.toInt ∧ (0 ≤ a.toInt → 0 ≤ (a - a / b * b).toInt) ∧ (a.toInt < 0 → (a - a / b * b).toInt ≤ 0) := by
  rw [(ir_eq hb).1]
  rcases (show a.toInt < 0 ∨ 0 ≤ a.toInt by omega) with q | q
  · obtain ⟨z1, z2, -, -⟩ := tm_neg q hb
    exact ⟨z2, by omega, fun _ => by omega, fun _ => z1⟩
  · obtain ⟨z1, z2, -, -⟩ := tm_pos q hb
    exact ⟨by omega, z2, fun _ => z1, fun _ => by omega⟩
theorem id_pos {a b : Int32} (ha : 0 ≤ a.toInt) (hb : 0 < b.toInt) : 0 ≤ (a / b).toInt ∧ (a / b).toInt ≤ a.toInt := by
  rw [(ir_eq (a := a) hb).2]
  have h1 := Int.tdiv_nonneg ha (show 0 ≤ b.toInt by omega)
  refine ⟨h1, ?_⟩
  obtain ⟨z1, z2, z3, z4⟩ := tm_pos ha hb
  have h2 : 1 * a.toInt.tdiv b.toInt ≤ b.toInt * a.toInt.tdiv b.toInt := Int.mul_le_mul_of_nonneg_right (by omega) h1
  omega
theorem id_lit {a b : Int32} (n : Int) (hn : b.toInt = n) (hb : 0 < n) (ha : 0 ≤ a.toInt) : 0 ≤ (a / b).toInt ∧ n * (a / b).toInt ≤ a.toInt := by
  subst hn
  rw [(ir_eq (a := a) hb).2]
  obtain ⟨z1, z2, z3, z4⟩ := tm_pos ha hb
  exact ⟨Int.tdiv_nonneg ha (by omega), by omega⟩
theorem nz64 {b : Int32} (h : ¬ b = 0) : ¬ b.toInt64 = 0 := by
  intro e
  have q : b.toInt64.toInt = (0 : Int64).toInt := by rw [e]
  rw [Int32.toInt_toInt64] at q
  exact h (Int32.toInt_inj.mp (q.trans (by decide)))
theorem z01 {x : Int32} (h : x.toInt = 0 ∨ x.toInt = 1) : x = 0 ∨ x = 1 := by
  rcases h with q | q
  · exact Or.inl ((ki_eq _ _).mpr (q.trans (by decide)))
  · exact Or.inr ((ki_eq _ _).mpr (q.trans (by decide)))
theorem nar_01 {v : Int32} (h : v.toInt = 0 ∨ v.toInt = 1) : narrow .boolean (.int v) = .int v := by
  rcases z01 h with rfl | rfl <;> rfl
theorem nar_z (x : Int32) : 0 ≤ (vp_nar .boolean x).toInt ∧ (vp_nar .boolean x).toInt ≤ 1 := by
  have h := ia_and (a := x) (m := 1) (by decide)
  have k1 : (1 : Int32).toInt = 1 := by decide
  rw [k1] at h
  exact h
theorem fit_z {x : Int32} (h : 0 ≤ x.toInt ∧ x.toInt ≤ 1) : fits .boolean (.int x) = true := by
  rcases z01 (x := x) (by omega) with rfl | rfl <;> rfl
theorem is_8 {b : Int32} (h1 : 0 ≤ b.toInt) (h2 : b.toInt ≤ 8) : (1 : Int) ≤ ((1 : Int32) <<< (b &&& 31)).toInt ∧ ((1 : Int32) <<< (b &&& 31)).toInt ≤ 256 := by
  rcases (show b.toInt = 0 ∨ b.toInt = 1 ∨ b.toInt = 2 ∨ b.toInt = 3 ∨ b.toInt = 4 ∨ b.toInt = 5 ∨ b.toInt = 6 ∨ b.toInt = 7 ∨ b.toInt = 8 by omega) with q | q | q | q | q | q | q | q | q
  · have e : b = 0 := (ki_eq _ _).mpr (q.trans (by decide))
    subst e
    decide
  · have e : b = 1 := (ki_eq _ _).mpr (q.trans (by decide))
    subst e
    decide
  · have e : b = 2 := (ki_eq _ _).mpr (q.trans (by decide))
    subst e
    decide
  · have e : b = 3 := (ki_eq _ _).mpr (q.trans (by decide))
    subst e
    decide
  · have e : b = 4 := (ki_eq _ _).mpr (q.trans (by decide))
    subst e
    decide
  · have e : b = 5 := (ki_eq _ _).mpr (q.trans (by decide))
    subst e
    decide
  · have e : b = 6 := (ki_eq _ _).mpr (q.trans (by decide))
    subst e
    decide
  · have e : b = 7 := (ki_eq _ _).mpr (q.trans (by decide))
    subst e
    decide
  · have e : b = 8 := (ki_eq _ _).mpr (q.trans (by decide))
    subst e
    decide
theorem va_aldA {p : Program} {l : Launch} {e : Env} {R : Room} {s : State} {m : MethodId} {args : Array Value} {below : List Frame} {meth : Method} {c : Code} {H : Heap} {locs : List Loc} {cells slots : Nat} {Q : State → Prop} {cc : ByteArray} {pc : Nat} {ls : Array Slot} {rest : List Value} {D : va_G} {cl : List vw_C} {a : Nat} {tys : List (ClassId × FieldType)} {ws : va_W} (hexec : p.tables.exec = Jvm.exec) (hb : c.code = cc) (hK : va_K D cl tys s) (hP : va_P D cl ws H) (q0 t0 : Nat) {cA : ClassId} {t : FieldType} {n : Nat} {f : Nat → Option Nat} (ha : ws[q0]? = some (a, .inl (cA, n, .inr (.inr (.inr (.inr f)))))) (ht : tys[t0]? = some (cA, .array t)) {i : Int32} (hin : vp_in i n) (hdg : decode cc pc = .ok (.aaload, 1))
    (kk : W p l e R s m args below meth c H locs cells slots Q (F0 m (pc + 1) ls (va_rf (f i.toNatClampNeg) :: rest))) : W p l e R s m args below meth c H locs cells slots Q (F0 m pc ls (.int i :: .ref a :: rest)) := by
  have hlt : i.toNatClampNeg < n := vp_nat hin
  exact W.aald (v := va_rf (f i.toNatClampNeg)) (ty := .array t) hexec hb (hP q0 _ ha) ((hK.2 t0 _ ht).1 n (fun j => va_rf (f j))) rfl (fun q => by cases q) (by show ¬ (i < 0 ∨ (arrV _ _ _).slots.size ≤ _); rw [arrV_size]; exact hin) (by show (arrV _ _ _).slots[_]? = _; rw [arrV_read _ _ hlt]) rfl rfl hdg kk
theorem cn_le {a b : Int32} {N : Nat} (h1 : 0 ≤ a.toInt) (h2 : 0 ≤ b.toInt) (h3 : a.toInt + b.toInt ≤ N) : a.toNatClampNeg + b.toNatClampNeg ≤ N := by
  show a.toInt.toNat + b.toInt.toNat ≤ N
  omega
theorem hl_gt {a b c : Int32} {z : Int64} (e : z = a.toInt64 + b.toInt64) : 0 < lg_cmp z c.toInt64 ↔ c.toInt < a.toInt + b.toInt := by
  subst e
  rw [lc_gt, Int64.lt_iff_toInt_lt, Int64.toInt_add, Int32.toInt_toInt64, Int32.toInt_toInt64, Int32.toInt_toInt64]
  have h1 := i32_b a
  have h2 := i32_b b
  rw [Int.bmod_eq_of_le (by omega) (by omega)]
theorem MetF_ofW {l : Launch} {y : MethodName} {ws ws' : List Cond} {rm : Room} {Pc : Array Value → State → Prop} {Qc : Array Value → State → Outcome → State → Prop} {mc ms : Nat} {free : Addr → Prop} {cc : ByteArray} {maxL : Nat} {ret : Option FieldType}
    (hy : plainFor y = true) (hw : ws = Cond.code y cc maxL ret :: ws')
    (body : ∀ p e s m args below meth c s₁, BodyLoose p l y (headSpec ws rm) cc maxL ret e s m args below meth c s₁ → c.maxLocals = maxL → Pc args s →
      W p l e (headSpec ws rm).room s m args below meth c s.heap [] 0 0 (MQ below Qc args s mc ms free) (entryFrame m args maxL)) : Met l y ws rm Pc Qc mc ms free := by
  refine MetFree.of_bodySF (code := cc) (maxLocals := maxL) (ret := ret) hy ?_ ?_
  · intro args s m h hn
    obtain ⟨meth, c, h1, h2, h3, h4, h5, h6, -, -⟩ := Cond.code_spec hn (atoms_spec (ws := ws) h _ (by rw [hw]; exact List.mem_cons_self))
    exact ⟨meth, c, h1, h2, h3, h4, h5, h6⟩
  · intro p e s m args below meth c s₁ B hml hP _
    have hh0 : s₁.heap = s.heap := by rw [B.state]; rfl
    obtain ⟨t, a1, o, b1, b2, b3⟩ := body p e s m args below meth c s₁ B hml hP s₁ hh0 (Stand.of_body B)
    exact ⟨t, o, a1, b1, b2, ⟨b3.1, b3.2⟩⟩
theorem kEnterF {l : Launch} {y : MethodName} {cc : ByteArray} {n : Nat} {ret : Option FieldType} {rm : Room} {Qc : Array Value → State → Outcome → State → Prop} {mc ms : Nat} {free : Addr → Prop} {dC : Nat → ClassId} {dI : Nat → Nat → Nat} {tys : List (ClassId × FieldType)} {w : va_W} {sz : Nat} {av : List Value} (hy : plainFor y = true) (hlen : (lg_sl av).length ≤ n)
    (body : ∀ (p : Program) (e : Env) (s : State) (m : MethodId) (below : List Frame) (meth : Method) (c : Code) (ls : Array Slot), p.tables.exec = Jvm.exec → c.code = cc → meth.sig.returnType = ret → c.maxLocals = n → s.vm.findClass y.cls = some m.cls → meth.locks = false → meth.name = y.name → (∀ wd ∈ wsL_law, wd.before av.toArray s = true) → s.heap.size = sz → va_P (dC, dI) vwCl w s.heap → va_K (dC, dI) vwCl tys s → va_D (va_A w s.heap.size) w → lv_has ls n (lv_args 0 av) → W p l e rm s m av.toArray below meth c s.heap [] 0 0 (MQ below Qc av.toArray s mc ms free) (F0 m 0 ls [])) :
    Met l y (kw y cc n ret) rm (va_Pc av (kPre dC dI tys w sz)) Qc mc ms free := by
  refine MetF_ofW (cc := cc) (maxL := n) (ret := ret) hy rfl ?_
  intro p e s m args below meth c s₁ B hml hv
  obtain ⟨rfl, hsz, hP, hK, hD0⟩ := hv
  have hts := atoms_spec (ws := kw y cc n ret) B.pre
  have hl := lv_entry av (n := n) hlen
  rw [lg_entry_eq]
  exact body p e s m below meth c _ B.exec B.bytes B.returns hml (findClass_of_methodNamed B.named) B.notSynchronized (name_of_methodNamed B.named B.method).1 (fun wd h => hts wd (List.mem_cons_of_mem _ h)) hsz hP hK (hD0.self (sz := s.heap.size)) hl
