-- MY OWN ROWS: what the reference reads, and its programs
theorem upd_nej {F : Nat → Int32} {x v : Int32} {j : Nat} (h : j ≠ x.toInt.toNat) : upd F x.toNatClampNeg v j = F j := by
  have e1 : x.toNatClampNeg = x.toInt.toNat := rfl
  simp only [upd]
  rw [if_neg (by omega)]
theorem upd_eqj {F : Nat → Int32} {x v : Int32} {j : Nat} (h : j = x.toInt.toNat) : upd F x.toNatClampNeg v j = v := by
  have e1 : x.toNatClampNeg = x.toInt.toNat := rfl
  simp only [upd]
  rw [if_pos (by omega)]
theorem upd_ne {F : Nat → Int32} {x y v : Int32} (h : y.toInt.toNat ≠ x.toInt.toNat) : upd F x.toNatClampNeg v y.toNatClampNeg = F y.toNatClampNeg := upd_nej h
theorem wat_nei {F : Nat → Int32} {x v : Int32} {j : Nat} (h : j ≠ x.toInt.toNat) : wat (upd F x.toNatClampNeg v) j = wat F j := by unfold wat; rw [upd_nej h]
theorem wat_eqi {F : Nat → Int32} {x v : Int32} {j : Nat} (h : j = x.toInt.toNat) : wat (upd F x.toNatClampNeg v) j = v.toInt := by unfold wat; rw [upd_eqj h]
theorem wfo_nei {F : Nat → Int32} {x v : Int32} {j : Nat} {g : Int} (h : 188 + 6 * g.toNat + j ≠ x.toInt.toNat) : wfo (upd F x.toNatClampNeg v) j g = wfo F j g := by unfold wfo; rw [upd_nej h]
theorem wfo_eqi {F : Nat → Int32} {x v : Int32} {j : Nat} {g : Int} (h : 188 + 6 * g.toNat + j = x.toInt.toNat) : wfo (upd F x.toNatClampNeg v) j g = v.toInt := by unfold wfo; rw [upd_eqj h]
theorem WI_hd {c : Int} {F : Nat → Int32} {x v : Int32} (h : WI c F) (h0 : 0 ≤ x.toInt) (hk : x.toInt < 20) (h7 : x.toInt ≠ 7) (hh : whd c (upd F x.toNatClampNeg v)) : WI c (upd F x.toNatClampNeg v) := by
  obtain ⟨_, hn, hf, hp⟩ := h
  refine ⟨hh, ?_, ?_, ?_⟩
  · intro n hn9
    rw [wat_nei (by omega)]
    exact hn n hn9
  · intro g h1 h2
    have q := hf g h1 h2
    unfold wfl at q ⊢
    rw [wfo_nei (by omega), wfo_nei (by omega), wfo_nei (by omega), wfo_nei (by omega)]
    exact q
  · intro p h1
    have q := hp p h1
    rw [wat_nei (j := 248 + 3 * p) (by omega), wat_nei (j := 7) (by omega), wat_nei (j := 250 + 3 * p) (by omega)]
    exact q
theorem WI_ot {c : Int} {F : Nat → Int32} {x v : Int32} (h : WI c F) (hk : x.toInt = 0 ∨ x.toInt = 2 ∨ x.toInt = 3 ∨ x.toInt = 8 ∨ x.toInt = 10) : WI c (upd F x.toNatClampNeg v) := by
  refine WI_hd h (by omega) (by omega) (by omega) ?_
  have hh := h.1
  unfold whd at hh ⊢
  rw [wat_nei (j := 1) (by omega), wat_nei (j := 4) (by omega), wat_nei (j := 5) (by omega), wat_nei (j := 6) (by omega), wat_nei (j := 7) (by omega), wat_nei (j := 9) (by omega), wat_nei (j := 18) (by omega)]
  exact hh
theorem WI_st {c : Int} {F : Nat → Int32} {x v : Int32} (h : WI c F) (hk : x.toInt = 1) (h1 : 1 ≤ v.toInt) (h2 : v.toInt ≤ 60) : WI c (upd F x.toNatClampNeg v) := by
  refine WI_hd h (by omega) (by omega) (by omega) ?_
  have hh := h.1
  unfold whd at hh ⊢
  rw [wat_eqi (j := 1) (by omega), wat_nei (j := 4) (by omega), wat_nei (j := 5) (by omega), wat_nei (j := 6) (by omega), wat_nei (j := 7) (by omega), wat_nei (j := 9) (by omega), wat_nei (j := 18) (by omega)]
  omega
theorem WI_tr {c : Int} {F : Nat → Int32} {x v : Int32} (h : WI c F) (hk : x.toInt = 4) (h1 : 0 ≤ v.toInt) (h2 : v.toInt ≤ 6) : WI c (upd F x.toNatClampNeg v) := by
  refine WI_hd h (by omega) (by omega) (by omega) ?_
  have hh := h.1
  unfold whd at hh ⊢
  rw [wat_eqi (j := 4) (by omega), wat_nei (j := 1) (by omega), wat_nei (j := 5) (by omega), wat_nei (j := 6) (by omega), wat_nei (j := 7) (by omega), wat_nei (j := 9) (by omega), wat_nei (j := 18) (by omega)]
  omega
theorem WI_no {c : Int} {F : Nat → Int32} {x v : Int32} (h : WI c F) (hk : x.toInt = 5) (h1 : 0 ≤ v.toInt) (h2 : v.toInt ≤ 24) : WI c (upd F x.toNatClampNeg v) := by
  refine WI_hd h (by omega) (by omega) (by omega) ?_
  have hh := h.1
  unfold whd at hh ⊢
  rw [wat_eqi (j := 5) (by omega), wat_nei (j := 1) (by omega), wat_nei (j := 4) (by omega), wat_nei (j := 6) (by omega), wat_nei (j := 7) (by omega), wat_nei (j := 9) (by omega), wat_nei (j := 18) (by omega)]
  omega
theorem WI_gb {c : Int} {F : Nat → Int32} {x v : Int32} (h : WI c F) (hk : x.toInt = 9) (h1 : 1 ≤ v.toInt) (h2 : v.toInt ≤ 60) : WI c (upd F x.toNatClampNeg v) := by
  refine WI_hd h (by omega) (by omega) (by omega) ?_
  have hh := h.1
  unfold whd at hh ⊢
  rw [wat_eqi (j := 9) (by omega), wat_nei (j := 1) (by omega), wat_nei (j := 4) (by omega), wat_nei (j := 5) (by omega), wat_nei (j := 6) (by omega), wat_nei (j := 7) (by omega), wat_nei (j := 18) (by omega)]
  omega
/-- a pawl's place, of one that isn't counted yet -/
theorem WI_pst {c : Int} {F : Nat → Int32} {x v : Int32} (h : WI c F) (h1 : 248 ≤ x.toInt) (h2 : x.toInt < 260) (hv : (x.toInt - 248) % 3 = 0 → 0 ≤ v.toInt ∧ v.toInt ≤ 9) (ht : (x.toInt - 248) % 3 = 2 → wat F 7 ≤ (x.toInt - 248) / 3) : WI c (upd F x.toNatClampNeg v) := by
  obtain ⟨hh, hn, hf, hp⟩ := h
  refine ⟨?_, ?_, ?_, ?_⟩
  · unfold whd at hh ⊢
    rw [wat_nei (j := 1) (by omega), wat_nei (j := 4) (by omega), wat_nei (j := 5) (by omega), wat_nei (j := 6) (by omega), wat_nei (j := 7) (by omega), wat_nei (j := 9) (by omega), wat_nei (j := 18) (by omega)]
    exact hh
  · intro n hn9
    rw [wat_nei (by omega)]
    exact hn n hn9
  · intro g g1 g2
    have q := hf g g1 g2
    unfold wfl at q ⊢
    rw [wfo_nei (by omega), wfo_nei (by omega), wfo_nei (by omega), wfo_nei (by omega)]
    exact q
  · intro p p1
    have q := hp p p1
    rw [wat_nei (j := 7) (by omega)]
    refine ⟨?_, ?_⟩
    · by_cases e : 248 + 3 * p = x.toInt.toNat
      · rw [wat_eqi e]
        exact hv (by omega)
      · rw [wat_nei e]
        exact q.1
    · intro hlt
      by_cases e : 250 + 3 * p = x.toInt.toNat
      · exfalso
        have := ht (by omega)
        omega
      · rw [wat_nei e]
        exact q.2 hlt
theorem WI_pw {c : Int} {F : Nat → Int32} {x v : Int32} {p : Int} (h : WI c F) (hk : x.toInt = 7) (hp : wat F 7 = p) (hv : v.toInt = p + 1) (h0 : 0 ≤ p) (h4 : p < 4) (ht : 2 ≤ wat F (250 + 3 * p.toNat)) : WI c (upd F x.toNatClampNeg v) := by
  obtain ⟨hh, hn, hf, hq⟩ := h
  refine ⟨?_, ?_, ?_, ?_⟩
  · unfold whd at hh ⊢
    rw [wat_eqi (j := 7) (by omega), wat_nei (j := 1) (by omega), wat_nei (j := 4) (by omega), wat_nei (j := 5) (by omega), wat_nei (j := 6) (by omega), wat_nei (j := 9) (by omega), wat_nei (j := 18) (by omega)]
    omega
  · intro n hn9
    rw [wat_nei (by omega)]
    exact hn n hn9
  · intro g g1 g2
    have q := hf g g1 g2
    unfold wfl at q ⊢
    rw [wfo_nei (by omega), wfo_nei (by omega), wfo_nei (by omega), wfo_nei (by omega)]
    exact q
  · intro r r1
    have q := hq r r1
    rw [wat_eqi (j := 7) (by omega), wat_nei (j := 248 + 3 * r) (by omega), wat_nei (j := 250 + 3 * r) (by omega)]
    refine ⟨q.1, fun hlt => ?_⟩
    by_cases e : (r : Int) = p
    · have e2 : p.toNat = r := by omega
      rw [e2] at ht
      exact ht
    · exact q.2 (by omega)
theorem WI_fo {c : Int} {F G : Nat → Int32} {x v : Int32} {g0 : Int} (h : WI c F) (hk : x.toInt = 6) (hg : wat F 6 = g0) (hx : g0 ≤ 9) (h1 : 1 ≤ wat F 1) (hG : ∀ j : Nat, ((j : Int) < 188 + 6 * g0 ∨ 188 + 6 * g0 + 6 ≤ (j : Int)) → G j = F j) (hw : wfl G g0) (hv : v.toInt = g0 + 1) : WI c (upd G x.toNatClampNeg v) := by
  obtain ⟨hh, hn, hf, hp⟩ := h
  have hg0 : 0 ≤ g0 := by
    unfold whd at hh
    omega
  have w : ∀ j : Nat, ((j : Int) < 188 ∨ 248 ≤ (j : Int)) → j ≠ 6 → wat (upd G x.toNatClampNeg v) j = wat F j := fun j hj hj6 => by
    rw [wat_nei (by omega)]
    unfold wat
    rw [hG j (by omega)]
  refine ⟨?_, ?_, ?_, ?_⟩
  · unfold whd at hh ⊢
    rw [wat_eqi (j := 6) (by omega), w 1 (by omega) (by omega), w 4 (by omega) (by omega), w 5 (by omega) (by omega), w 7 (by omega) (by omega), w 9 (by omega) (by omega), w 18 (by omega) (by omega)]
    omega
  · intro n hn9
    rw [w _ (by omega) (by omega)]
    exact hn n hn9
  · intro g g1 g2
    by_cases e : g = g0
    · subst e
      have q := hw
      unfold wfl at q ⊢
      rw [wfo_nei (by omega), wfo_nei (by omega), wfo_nei (by omega), wfo_nei (by omega)]
      exact q
    · have o : ∀ j : Nat, j < 6 → wfo (upd G x.toNatClampNeg v) j g = wfo F j g := fun j hj => by
        rw [wfo_nei (by omega)]
        unfold wfo
        rw [hG _ (by omega)]
      have q := hf g g1 g2
      unfold wfl at q ⊢
      rw [o 0 (by omega), o 1 (by omega), o 2 (by omega), o 3 (by omega)]
      exact q
  · intro p p1
    rw [w (248 + 3 * p) (by omega) (by omega), w 7 (by omega) (by omega), w (250 + 3 * p) (by omega) (by omega)]
    exact hp p p1
def FG (fk : Int) (F : Nat → Int32) : Prop := fk = 0 → WI 0 F ∧ 1 ≤ wat F 1
def FH (fk : Int) (F : Nat → Int32) : Prop := fk = 0 → WI 0 F ∧ (wat F 0 = 0 ∨ 1 ≤ wat F 1)
theorem FH_line {fk fk2 : Int} {F : Nat → Int32} {x v : Int32} (h : FG fk F) (hx : x.toInt = 0) (hf : fk2 = 0 → fk = 0) : FH fk2 (upd F x.toNatClampNeg v) := fun h2 => by
  obtain ⟨a, b⟩ := h (hf h2)
  exact ⟨WI_ot a (by omega), Or.inr (by rw [wat_nei (by omega)]; exact b)⟩
def ZR (k : Int) (F : Nat → Int32) : Prop := ∀ j : Nat, (j : Int) < k → F j = 0
theorem ZR_0 {k : Int} {F : Nat → Int32} (h : k ≤ 0) : ZR k F := fun j hj => by omega
theorem ZR_step {k : Int} {F : Nat → Int32} {x : Int32} (h : ZR k F) (hx : x.toInt = k) (h0 : 0 ≤ k) : ZR (k + 1) (upd F x.toNatClampNeg 0) := fun j hj => by
  by_cases e : j = x.toInt.toNat
  · exact upd_eqj e
  · rw [upd_nej e]
    exact h j (by omega)
theorem ZR_wat {k : Int} {F : Nat → Int32} (h : ZR k F) {j : Nat} (hj : (j : Int) < k) : wat F j = 0 := by
  unfold wat
  rw [h j hj]
  decide
theorem ZR_WI {k : Int} {F : Nat → Int32} {x y z v w u : Int32} (h : ZR k F) (hk : 544 ≤ k) (hx : x.toInt = 8) (hy : y.toInt = 9) (hz : z.toInt = 17) (hw : w.toInt = 1) : WI 0 (upd (upd (upd F x.toNatClampNeg v) y.toNatClampNeg w) z.toNatClampNeg u) ∧ wat (upd (upd (upd F x.toNatClampNeg v) y.toNatClampNeg w) z.toNatClampNeg u) 0 = 0 := by
  have q : ∀ j : Nat, j < 544 → j ≠ 8 → j ≠ 9 → j ≠ 17 → wat (upd (upd (upd F x.toNatClampNeg v) y.toNatClampNeg w) z.toNatClampNeg u) j = 0 := fun j h1 h2 h3 h4 => by
    rw [wat_nei (by omega), wat_nei (by omega), wat_nei (by omega)]
    exact ZR_wat h (by omega)
  have q9 : wat (upd (upd (upd F x.toNatClampNeg v) y.toNatClampNeg w) z.toNatClampNeg u) 9 = 1 := by
    rw [wat_nei (by omega), wat_eqi (by omega)]
    exact hw
  refine ⟨⟨?_, ?_, ?_, ?_⟩, q 0 (by omega) (by omega) (by omega) (by omega)⟩
  · unfold whd
    rw [q9, q 1 (by omega) (by omega) (by omega) (by omega), q 4 (by omega) (by omega) (by omega) (by omega), q 5 (by omega) (by omega) (by omega) (by omega), q 6 (by omega) (by omega) (by omega) (by omega), q 7 (by omega) (by omega) (by omega) (by omega), q 18 (by omega) (by omega) (by omega) (by omega)]
    omega
  · intro n hn
    rw [q _ (by omega) (by omega) (by omega) (by omega)]
    omega
  · intro g g1 g2
    have o : ∀ j : Nat, j < 6 → wfo (upd (upd (upd F x.toNatClampNeg v) y.toNatClampNeg w) z.toNatClampNeg u) j g = 0 := fun j hj => q _ (by omega) (by omega) (by omega) (by omega)
    unfold wfl
    rw [o 0 (by omega), o 1 (by omega), o 2 (by omega)]
    omega
  · intro p p1
    rw [q (248 + 3 * p) (by omega) (by omega) (by omega) (by omega), q 7 (by omega) (by omega) (by omega) (by omega)]
    omega
theorem CP_WI {c i : Int} {F G G0 : Nat → Int32} (hW : WI c F) (hc : CP F G0 0 0 i G) (hi : 544 ≤ i) : WI c G := by
  refine WI_congr hW (fun n hn _ _ _ _ => ?_)
  have w := hc.1 n (by omega)
  simpa using w
-- programs
def dl (x : Int) : Int := if x = 3 ∨ x = 4 then 1 else if x = 5 then -1 else 0
def dep (F : Nat → Int32) : Nat → Int
  | 0 => 0
  | k + 1 => dep F k + dl (F (4 * k)).toInt
theorem dep_congr {F G : Nat → Int32} : ∀ {k : Nat}, (∀ j : Nat, j < k → G (4 * j) = F (4 * j)) → dep G k = dep F k
  | 0, _ => rfl
  | k + 1, h => by
    show dep G k + dl (G (4 * k)).toInt = dep F k + dl (F (4 * k)).toInt
    rw [dep_congr (fun j hj => h j (by omega)), h k (by omega)]
theorem dl_0 {x : Int} (h : 0 ≤ x) (h2 : x ≤ 2) : dl x = 0 := by
  unfold dl
  rw [if_neg (by omega), if_neg (by omega)]
theorem dl_1 {x : Int} (h : x = 3 ∨ x = 4) : dl x = 1 := by
  unfold dl
  rw [if_pos h]
theorem dl_5 : dl 5 = -1 := by
  unfold dl
  rw [if_neg (by omega), if_pos rfl]
def AK (F : Nat → Int32) (n : Int) (op : Nat → Prop) (k : Nat) : Prop := (0 ≤ (F (4 * k)).toInt ∧ (F (4 * k)).toInt ≤ 5) ∧ ((F (4 * k)).toInt = 4 → (0 ≤ (F (4 * k + 2)).toInt ∧ (F (4 * k + 2)).toInt ≤ 9) ∧ (op k ∨ ((k : Int) < (F (4 * k + 3)).toInt ∧ (F (4 * k + 3)).toInt < n ∧ dep F ((F (4 * k + 3)).toInt.toNat + 1) = dep F k))) ∧ ((F (4 * k)).toInt = 5 → 0 ≤ (F (4 * k + 1)).toInt ∧ (F (4 * k + 1)).toInt < (k : Int) ∧ dep F ((F (4 * k + 1)).toInt.toNat + 1) = dep F k)
def opn (O : Nat → Int32) (o : Int) (k : Nat) : Prop := ∃ i : Nat, (i : Int) < o ∧ (O i).toInt = (k : Int)
def RD (F : Nat → Int32) (n : Int) (O : Nat → Int32) (o : Int) : Prop := (0 ≤ n ∧ 0 ≤ o ∧ o ≤ 5 ∧ dep F n.toNat = o) ∧ (∀ k : Nat, (k : Int) ≤ n → 0 ≤ dep F k ∧ dep F k ≤ 5) ∧ (∀ k : Nat, (k : Int) < n → AK F n (opn O o) k) ∧ ∀ i : Nat, (i : Int) < o → 0 ≤ (O i).toInt ∧ (O i).toInt < n ∧ ((F (4 * (O i).toInt.toNat)).toInt = 3 ∨ (F (4 * (O i).toInt.toNat)).toInt = 4) ∧ dep F (O i).toInt.toNat = (i : Int)
theorem RD_0 {F O : Nat → Int32} {n o : Int} (h1 : n = 0) (h2 : o = 0) : RD F n O o := by
  subst h1
  subst h2
  refine ⟨⟨by omega, by omega, by omega, rfl⟩, fun k hk => ?_, fun k hk => by omega, fun i hi => by omega⟩
  have e : k = 0 := by omega
  subst e
  show (0 : Int) ≤ 0 ∧ (0 : Int) ≤ 5
  omega
def AD (F : Nat → Int32) (n : Int) (w a b : Int32) (G : Nat → Int32) : Prop := (G (4 * n.toNat) = w ∧ G (4 * n.toNat + 1) = a ∧ G (4 * n.toNat + 2) = b) ∧ ∀ j : Nat, (j < 4 * n.toNat ∨ 4 * n.toNat + 2 < j) → G j = F j
theorem AD_of {F : Nat → Int32} {n : Int} {x y z w a b : Int32} (h0 : 0 ≤ n) (hx : x.toInt = 4 * n) (hy : y.toInt = 4 * n + 1) (hz : z.toInt = 4 * n + 2) : AD F n w a b (upd (upd (upd F x.toNatClampNeg w) y.toNatClampNeg a) z.toNatClampNeg b) := by
  refine ⟨⟨?_, ?_, ?_⟩, fun j hj => ?_⟩
  · rw [upd_nej (by omega), upd_nej (by omega), upd_eqj (by omega)]
  · rw [upd_nej (by omega), upd_eqj (by omega)]
  · rw [upd_eqj (by omega)]
  · rw [upd_nej (by omega), upd_nej (by omega), upd_nej (by omega)]
theorem AD_dep {F G : Nat → Int32} {n : Int} {w a b : Int32} (h : AD F n w a b G) {k : Nat} (hk : k ≤ n.toNat) : dep G k = dep F k := dep_congr (fun j hj => h.2 _ (by omega))
theorem AD_dep1 {F G : Nat → Int32} {n : Int} {w a b : Int32} (h : AD F n w a b G) : dep G (n.toNat + 1) = dep F n.toNat + dl w.toInt := by
  show dep G n.toNat + dl (G (4 * n.toNat)).toInt = _
  rw [AD_dep h (Nat.le_refl _), h.1.1]
theorem AK_old {F G : Nat → Int32} {n : Int} {w a b : Int32} {op op2 : Nat → Prop} {k : Nat} (h : AD F n w a b G) (hk : (k : Int) < n) (hA : AK F n op k) (ho : op k → op2 k) : AK G (n + 1) op2 k := by
  have e0 : G (4 * k) = F (4 * k) := h.2 _ (by omega)
  have e1 : G (4 * k + 1) = F (4 * k + 1) := h.2 _ (by omega)
  have e2 : G (4 * k + 2) = F (4 * k + 2) := h.2 _ (by omega)
  have e3 : G (4 * k + 3) = F (4 * k + 3) := h.2 _ (by omega)
  have ek : dep G k = dep F k := AD_dep h (by omega)
  unfold AK at hA ⊢
  rw [e0, e1, e2, e3, ek]
  refine ⟨hA.1, fun q => ⟨(hA.2.1 q).1, ?_⟩, fun q => ?_⟩
  · rcases (hA.2.1 q).2 with r | r
    · exact Or.inl (ho r)
    · refine Or.inr ⟨r.1, by omega, ?_⟩
      rw [AD_dep h (by omega)]
      exact r.2.2
  · obtain ⟨r1, r2, r3⟩ := hA.2.2 q
    refine ⟨r1, r2, ?_⟩
    rw [AD_dep h (by omega)]
    exact r3
theorem RD_add {F G O : Nat → Int32} {n o n1 o1 : Int} {w a b : Int32} (h : RD F n O o) (ha : AD F n w a b G) (hw : 0 ≤ w.toInt) (hw2 : w.toInt ≤ 2) (hn1 : n1 = n + 1) (ho1 : o1 = o) : RD G n1 O o1 := by
  subst hn1
  subst ho1
  obtain ⟨⟨h0, h1, h2, h3⟩, hd, hA, hO⟩ := h
  have en : (n + 1).toNat = n.toNat + 1 := by omega
  have d1 : dep G (n.toNat + 1) = o1 := by rw [AD_dep1 ha, dl_0 hw hw2, h3]; omega
  refine ⟨⟨by omega, h1, h2, by rw [en]; exact d1⟩, fun k hk => ?_, fun k hk => ?_, fun i hi => ?_⟩
  · by_cases e : k = n.toNat + 1
    · subst e
      rw [d1]
      omega
    · rw [AD_dep ha (by omega)]
      exact hd k (by omega)
  · by_cases e : k = n.toNat
    · subst e
      unfold AK
      rw [ha.1.1]
      exact ⟨by omega, fun q => by omega, fun q => by omega⟩
    · exact AK_old ha (by omega) (hA k (by omega)) (fun q => q)
  · obtain ⟨q1, q2, q3, q4⟩ := hO i hi
    refine ⟨q1, by omega, ?_, ?_⟩
    · rw [ha.2 _ (by omega)]
      exact q3
    · rw [AD_dep ha (by omega)]
      exact q4
def OP (O : Nat → Int32) (o n : Int) (P : Nat → Int32) : Prop := (P o.toNat).toInt = n - 1 ∧ ∀ j : Nat, j ≠ o.toNat → P j = O j
theorem OP_of {O : Nat → Int32} {o n : Int} {x v : Int32} (hx : x.toInt = o) (hv : v.toInt = n - 1) : OP O o n (upd O x.toNatClampNeg v) := by
  refine ⟨?_, fun j hj => ?_⟩
  · rw [upd_eqj (by omega)]
    exact hv
  · exact upd_nej (by omega)
theorem RD_open {F G O P : Nat → Int32} {n o n1 o1 : Int} {w a b : Int32} (h : RD F n O o) (ha : AD F n w a b G) (hw : w.toInt = 3 ∨ w.toInt = 4) (hb : 0 ≤ b.toInt) (hb9 : b.toInt ≤ 9) (hp : OP O o n1 P) (ho : o ≤ 4) (hn1 : n1 = n + 1) (ho1 : o1 = o + 1) : RD G n1 P o1 := by
  subst hn1
  subst ho1
  obtain ⟨⟨h0, h1, h2, h3⟩, hd, hA, hO⟩ := h
  have en : (n + 1).toNat = n.toNat + 1 := by omega
  have d1 : dep G (n.toNat + 1) = o + 1 := by rw [AD_dep1 ha, dl_1 hw, h3]
  have dn : dep G n.toNat = o := by rw [AD_dep ha (Nat.le_refl _), h3]
  obtain ⟨p1, p2⟩ := hp
  refine ⟨⟨by omega, by omega, by omega, by rw [en]; exact d1⟩, fun k hk => ?_, fun k hk => ?_, fun i hi => ?_⟩
  · by_cases e : k = n.toNat + 1
    · subst e
      rw [d1]
      omega
    · rw [AD_dep ha (by omega)]
      exact hd k (by omega)
  · by_cases e : k = n.toNat
    · subst e
      unfold AK
      rw [ha.1.1, ha.1.2.2]
      exact ⟨by omega, fun q => ⟨by omega, Or.inl ⟨o.toNat, by omega, by omega⟩⟩, fun q => by omega⟩
    · refine AK_old ha (by omega) (hA k (by omega)) (fun q => ?_)
      obtain ⟨i, i1, i2⟩ := q
      exact ⟨i, by omega, by rw [p2 i (by omega)]; exact i2⟩
  · by_cases e : i = o.toNat
    · subst e
      have ep : (P o.toNat).toInt.toNat = n.toNat := by omega
      rw [ep, ha.1.1, dn]
      exact ⟨by omega, by omega, hw, by omega⟩
    · obtain ⟨q1, q2, q3, q4⟩ := hO i (by omega)
      rw [p2 i e]
      refine ⟨q1, by omega, ?_, ?_⟩
      · rw [ha.2 _ (by omega)]
        exact q3
      · rw [AD_dep ha (by omega)]
        exact q4
theorem RD_close {F G O : Nat → Int32} {n o n1 o1 : Int} {w a b x v : Int32} (h : RD F n O o) (ha : AD F n w a b G) (hw : w.toInt = 5) (ho : 1 ≤ o) (hab : a = O o1.toNat) (hx : x.toInt = 4 * a.toInt + 3) (hv : v.toInt = n) (hn1 : n1 = n + 1) (ho1 : o1 = o - 1) : RD (upd G x.toNatClampNeg v) n1 O o1 := by
  subst hn1
  obtain ⟨⟨h0, h1, h2, h3⟩, hd, hA, hO⟩ := h
  obtain ⟨b1, b2, b3, b4⟩ := hO o1.toNat (by omega)
  rw [← hab] at b1 b2 b3 b4
  have en : (n + 1).toNat = n.toNat + 1 := by omega
  have g : ∀ j : Nat, j ≠ 4 * a.toInt.toNat + 3 → upd G x.toNatClampNeg v j = G j := fun j hj => upd_nej (by omega)
  have gb : upd G x.toNatClampNeg v (4 * a.toInt.toNat + 3) = v := upd_eqj (by omega)
  have dg : ∀ k : Nat, dep (upd G x.toNatClampNeg v) k = dep G k := fun k => dep_congr (fun j hj => g _ (by omega))
  have d1 : dep G (n.toNat + 1) = o1 := by rw [AD_dep1 ha, hw, dl_5, h3]; omega
  have da : dep G a.toInt.toNat = o1 := by rw [AD_dep ha (by omega), b4]; omega
  have da1 : dep G (a.toInt.toNat + 1) = o := by
    show dep G a.toInt.toNat + dl (G (4 * a.toInt.toNat)).toInt = o
    rw [da, ha.2 _ (by omega), dl_1 b3]
    omega
  refine ⟨⟨by omega, by omega, by omega, by rw [en, dg]; exact d1⟩, fun k hk => ?_, fun k hk => ?_, fun i hi => ?_⟩
  · rw [dg]
    by_cases e : k = n.toNat + 1
    · subst e
      rw [d1]
      omega
    · rw [AD_dep ha (by omega)]
      exact hd k (by omega)
  · by_cases e : k = n.toNat
    · subst e
      unfold AK
      rw [g (4 * n.toNat) (by omega), g (4 * n.toNat + 1) (by omega), ha.1.1, ha.1.2.1, dg, dg, dg]
      refine ⟨by omega, fun q => by omega, fun q => ⟨by omega, by omega, ?_⟩⟩
      rw [da1, AD_dep ha (Nat.le_refl _), h3]
    · have hk2 : (k : Int) < n := by omega
      have e0 : upd G x.toNatClampNeg v (4 * k) = F (4 * k) := by rw [g _ (by omega), ha.2 _ (by omega)]
      have e1 : upd G x.toNatClampNeg v (4 * k + 1) = F (4 * k + 1) := by rw [g _ (by omega), ha.2 _ (by omega)]
      have e2 : upd G x.toNatClampNeg v (4 * k + 2) = F (4 * k + 2) := by rw [g _ (by omega), ha.2 _ (by omega)]
      have hAk := hA k hk2
      unfold AK at hAk ⊢
      rw [e0, e1, e2, dg, dg, dg, AD_dep ha (k := k) (by omega)]
      refine ⟨hAk.1, fun q => ⟨(hAk.2.1 q).1, ?_⟩, fun q => ?_⟩
      · by_cases eb : k = a.toInt.toNat
        · right
          subst eb
          rw [gb, hv]
          refine ⟨by omega, by omega, ?_⟩
          rw [d1, b4]
          omega
        · rw [g _ (by omega), ha.2 _ (by omega)]
          rcases (hAk.2.1 q).2 with r | r
          · obtain ⟨i, i1, i2⟩ := r
            left
            refine ⟨i, ?_, i2⟩
            by_cases ei : i = o1.toNat
            · exfalso
              rw [ei, ← hab] at i2
              omega
            · omega
          · right
            refine ⟨r.1, by omega, ?_⟩
            rw [AD_dep ha (by omega)]
            exact r.2.2
      · obtain ⟨r1, r2, r3⟩ := hAk.2.2 q
        refine ⟨r1, r2, ?_⟩
        rw [AD_dep ha (by omega)]
        exact r3
  · obtain ⟨q1, q2, q3, q4⟩ := hO i (by omega)
    refine ⟨q1, by omega, ?_, ?_⟩
    · rw [g _ (by omega), ha.2 _ (by omega)]
      exact q3
    · rw [dg, AD_dep ha (by omega)]
      exact q4
/-- a program that was read to its end -/
def PR (F : Nat → Int32) (n : Int) : Prop := ∃ O, RD F n O 0
theorem PR_of {F O : Nat → Int32} {n o : Int} (h : RD F n O o) (ho : o = 0) : PR F n := by
  subst ho
  exact ⟨O, h⟩
def SG (F : Nat → Int32) (n o k : Int) : Prop := 0 ≤ k ∧ k ≤ n ∧ o = dep F k.toNat ∧ 0 ≤ o ∧ o ≤ 5
theorem SG_0 {F : Nat → Int32} {n : Int} (h : PR F n) {o k : Int} (ho : o = 0) (hk : k = 0) : SG F n o k := by
  subst ho
  subst hk
  obtain ⟨O, h⟩ := h
  exact ⟨by omega, h.1.1, rfl, by omega, by omega⟩
theorem PR_n {F : Nat → Int32} {n : Int} (h : PR F n) (k : Nat) (hk : (k : Int) ≤ n) : 0 ≤ dep F k ∧ dep F k ≤ 5 := by
  obtain ⟨O, h⟩ := h
  exact h.2.1 k hk
theorem PR_k {F : Nat → Int32} {n : Int} (h : PR F n) (k : Nat) (hk : (k : Int) < n) : AK F n (fun _ => False) k := by
  obtain ⟨O, h⟩ := h
  obtain ⟨a1, a2, a3⟩ := h.2.2.1 k hk
  refine ⟨a1, fun q => ⟨(a2 q).1, ?_⟩, a3⟩
  rcases (a2 q).2 with r | r
  · obtain ⟨i, i1, -⟩ := r
    omega
  · exact Or.inr r
def lv1 (B : Nat → Int32) (c o : Int) (i : Nat) : Int := if (i : Int) < o ∧ (B i).toInt < c then 1 else 0
def liv (B : Nat → Int32) (c o : Int) : Int := lv1 B c o 0 + lv1 B c o 1 + lv1 B c o 2 + lv1 B c o 3 + lv1 B c o 4 + lv1 B c o 5
def mm (B : Nat → Int32) (c o k n : Int) : Int := 5000 * (60 - c) + 501 * liv B c o + (n - k)
theorem lv1_b (B : Nat → Int32) (c o : Int) (i : Nat) : 0 ≤ lv1 B c o i ∧ lv1 B c o i ≤ 1 := by
  unfold lv1
  split <;> omega
theorem liv_b (B : Nat → Int32) (c o : Int) : 0 ≤ liv B c o ∧ liv B c o ≤ 6 := by
  have h0 := lv1_b B c o 0
  have h1 := lv1_b B c o 1
  have h2 := lv1_b B c o 2
  have h3 := lv1_b B c o 3
  have h4 := lv1_b B c o 4
  have h5 := lv1_b B c o 5
  unfold liv
  omega
theorem liv_le {B C : Nat → Int32} {c c2 o o2 : Int} (h : ∀ i : Nat, i < 6 → (i : Int) < o2 → (C i).toInt < c2 → (i : Int) < o ∧ (B i).toInt < c) : liv C c2 o2 ≤ liv B c o := by
  have q : ∀ i : Nat, i < 6 → lv1 C c2 o2 i ≤ lv1 B c o i := fun i hi => by
    by_cases e : (i : Int) < o2 ∧ (C i).toInt < c2
    · have r := h i hi e.1 e.2
      unfold lv1
      rw [if_pos e, if_pos r]
      omega
    · have b := (lv1_b B c o i).1
      have z : lv1 C c2 o2 i = 0 := by
        unfold lv1
        rw [if_neg e]
      omega
  have h0 := q 0 (by omega)
  have h1 := q 1 (by omega)
  have h2 := q 2 (by omega)
  have h3 := q 3 (by omega)
  have h4 := q 4 (by omega)
  have h5 := q 5 (by omega)
  unfold liv
  omega
theorem liv_lt {B C : Nat → Int32} {c o : Int} {d : Nat} (hd : d < 6) (hB : (d : Int) < o ∧ (B d).toInt < c) (hC : ¬ (C d).toInt < c) (h : ∀ i : Nat, i ≠ d → C i = B i) : liv C c o ≤ liv B c o - 1 := by
  have zd : lv1 C c o d = 0 := by
    unfold lv1
    rw [if_neg (fun q => hC q.2)]
  have od : lv1 B c o d = 1 := by
    unfold lv1
    rw [if_pos hB]
  have q : ∀ i : Nat, i ≠ d → lv1 C c o i = lv1 B c o i := fun i hi => by
    unfold lv1
    rw [h i hi]
  unfold liv
  rcases (show d = 0 ∨ d = 1 ∨ d = 2 ∨ d = 3 ∨ d = 4 ∨ d = 5 by omega) with rfl | rfl | rfl | rfl | rfl | rfl
  · rw [zd, od, q 1 (by omega), q 2 (by omega), q 3 (by omega), q 4 (by omega), q 5 (by omega)]
    omega
  · rw [zd, od, q 0 (by omega), q 2 (by omega), q 3 (by omega), q 4 (by omega), q 5 (by omega)]
    omega
  · rw [zd, od, q 0 (by omega), q 1 (by omega), q 3 (by omega), q 4 (by omega), q 5 (by omega)]
    omega
  · rw [zd, od, q 0 (by omega), q 1 (by omega), q 2 (by omega), q 4 (by omega), q 5 (by omega)]
    omega
  · rw [zd, od, q 0 (by omega), q 1 (by omega), q 2 (by omega), q 3 (by omega), q 5 (by omega)]
    omega
  · rw [zd, od, q 0 (by omega), q 1 (by omega), q 2 (by omega), q 3 (by omega), q 4 (by omega)]
    omega
/-- one act done: where it stands, and what falls -/
def DN (F : Nat → Int32) (n : Int) (B : Nat → Int32) (c o k : Int) (C : Nat → Int32) (c2 o2 k2 : Int) : Prop := SG F n o2 k2 ∧ 0 ≤ mm C c2 o2 k2 n ∧ mm C c2 o2 k2 n < mm B c o k n
theorem mm_0 {B : Nat → Int32} {c o k n : Int} (hc : c ≤ 60) (hk : k ≤ n) : 0 ≤ mm B c o k n := by
  have h := liv_b B c o
  unfold mm
  omega
theorem DN_move {F B : Nat → Int32} {n c o k c2 k2 : Int} (hP : PR F n) (hs : SG F n o k) (hk : k < n) (ht : 0 ≤ (F (4 * k.toNat)).toInt ∧ (F (4 * k.toNat)).toInt ≤ 2) (hk2 : k2 = k + 1) (hc : c ≤ c2) (hc2 : c2 ≤ 60) : DN F n B c o k B c2 o k2 := by
  subst hk2
  obtain ⟨s1, s2, s3, s4, s5⟩ := hs
  have en : (k + 1).toNat = k.toNat + 1 := by omega
  refine ⟨⟨by omega, by omega, ?_, s4, s5⟩, mm_0 hc2 (by omega), ?_⟩
  · rw [en]
    show o = dep F k.toNat + dl (F (4 * k.toNat)).toInt
    rw [dl_0 ht.1 ht.2]
    omega
  · have b1 := liv_b B c o
    have b2 := liv_b B c2 o
    by_cases e : c2 = c
    · subst e
      unfold mm
      omega
    · unfold mm
      omega
theorem DN_push {F B C : Nat → Int32} {n c o k o2 k2 : Int} {x v : Int32} (hP : PR F n) (hs : SG F n o k) (hk : k < n) (ht : (F (4 * k.toNat)).toInt = 3 ∨ (F (4 * k.toNat)).toInt = 4) (hC : C = upd B x.toNatClampNeg v) (hx : x.toInt = o) (hv : v.toInt = c) (hk2 : k2 = k + 1) (ho2 : o2 = o + 1) (hc2 : c ≤ 60) : DN F n B c o k C c o2 k2 := by
  subst hk2
  subst ho2
  obtain ⟨s1, s2, s3, s4, s5⟩ := hs
  have en : (k + 1).toNat = k.toNat + 1 := by omega
  have dd : dep F (k.toNat + 1) = o + 1 := by
    show dep F k.toNat + dl (F (4 * k.toNat)).toInt = _
    rw [dl_1 ht]
    omega
  have hb := PR_n hP (k.toNat + 1) (by omega)
  refine ⟨⟨by omega, by omega, by rw [en]; exact dd.symm, by omega, by omega⟩, mm_0 hc2 (by omega), ?_⟩
  have q : liv C c (o + 1) ≤ liv B c o := liv_le (fun i h1 h2 h3 => by
    subst hC
    by_cases e : i = x.toInt.toNat
    · rw [upd_eqj e] at h3
      omega
    · rw [upd_nej e] at h3
      exact ⟨by omega, h3⟩)
  unfold mm
  omega
theorem DN_skip {F B : Nat → Int32} {n c o k k2 : Int} {e : Int32} (hP : PR F n) (hs : SG F n o k) (hk : k < n) (ht : (F (4 * k.toNat)).toInt = 4) (he : e = F (4 * k.toNat + 3)) (hk2 : k2 = e.toInt + 1) (hc2 : c ≤ 60) : DN F n B c o k B c o k2 := by
  subst hk2
  obtain ⟨s1, s2, s3, s4, s5⟩ := hs
  rcases ((PR_k hP k.toNat (by omega)).2.1 ht).2 with r | r
  · exact r.elim
  · rw [← he] at r
    obtain ⟨r1, r2, r3⟩ := r
    have en : (e.toInt + 1).toNat = e.toInt.toNat + 1 := by omega
    refine ⟨⟨by omega, by omega, by rw [en, r3]; exact s3, s4, s5⟩, mm_0 hc2 (by omega), ?_⟩
    unfold mm
    omega
def EN (B : Nat → Int32) (o c k b r o2 : Int) (C : Nat → Int32) : Prop := (r = b + 1 ∧ o2 = o ∧ (B (o - 1).toNat).toInt < c ∧ (C (o - 1).toNat).toInt = c ∧ ∀ j : Nat, j ≠ (o - 1).toNat → C j = B j) ∨ (r = k + 1 ∧ o2 = o - 1 ∧ C = B)
theorem EN_back {B : Nat → Int32} {o c k b r o2 : Int} {x v z : Int32} (hr : r = b + 1) (ho : o2 = o) (h1 : 1 ≤ o) (hz : z = B x.toNatClampNeg) (hzc : z.toInt < c) (hx : x.toInt = o - 1) {y : Int32} (hy : y.toInt = o - 1) (hv : v.toInt = c) : EN B o c k b r o2 (upd B y.toNatClampNeg v) := by
  have e : x.toNatClampNeg = (o - 1).toNat := by
    have e1 : x.toNatClampNeg = x.toInt.toNat := rfl
    omega
  rw [e] at hz
  refine Or.inl ⟨hr, ho, by rw [← hz]; exact hzc, ?_, fun j hj => upd_nej (by omega)⟩
  rw [upd_eqj (by omega)]
  exact hv
theorem DN_end {F B C : Nat → Int32} {n c o k b r o2 : Int} (hP : PR F n) (hs : SG F n o k) (hk : k < n) (hn : n ≤ 400) (ht : (F (4 * k.toNat)).toInt = 5) (hb : b = (F (4 * k.toNat + 1)).toInt) (he : EN B o c k b r o2 C) (hc2 : c ≤ 60) : DN F n B c o k C c o2 r := by
  obtain ⟨s1, s2, s3, s4, s5⟩ := hs
  obtain ⟨a1, a2, a3⟩ := (PR_k hP k.toNat (by omega)).2.2 ht
  rw [← hb] at a1 a2
  have hb2 : (F (4 * k.toNat + 1)).toInt.toNat = b.toNat := by rw [hb]
  rw [hb2] at a3
  have ek : (k + 1).toNat = k.toNat + 1 := by omega
  have eb : (b + 1).toNat = b.toNat + 1 := by omega
  have dk : dep F (k.toNat + 1) = o - 1 := by
    show dep F k.toNat + dl (F (4 * k.toNat)).toInt = _
    rw [ht, dl_5]
    omega
  have hb3 := PR_n hP (k.toNat + 1) (by omega)
  rcases he with ⟨e1, e2, e3, e4, e5⟩ | ⟨e1, e2, e3⟩
  · subst e1
    subst e2
    refine ⟨⟨by omega, by omega, by rw [eb, a3]; exact s3, s4, s5⟩, mm_0 hc2 (by omega), ?_⟩
    have q := liv_lt (B := B) (C := C) (c := c) (o := o2) (d := (o2 - 1).toNat) (by omega) ⟨by omega, e3⟩ (by omega) e5
    unfold mm
    omega
  · subst e1
    subst e2
    subst e3
    refine ⟨⟨by omega, by omega, by rw [ek]; exact dk.symm, by omega, by omega⟩, mm_0 hc2 (by omega), ?_⟩
    have q : liv C c (o - 1) ≤ liv C c o := liv_le (fun i h1 h2 h3 => ⟨by omega, h3⟩)
    unfold mm
    omega
theorem PR_t {F : Nat → Int32} {n : Int} {z x : Int32} {k : Int} (h : PR F n) (h0 : 0 ≤ k) (hk : k < n) (hz : z = F x.toNatClampNeg) (hx : x.toInt = 4 * k) : z.toInt = (F (4 * k.toNat)).toInt ∧ 0 ≤ z.toInt ∧ z.toInt ≤ 5 := by
  have e : x.toNatClampNeg = 4 * k.toNat := by
    have e1 : x.toNatClampNeg = x.toInt.toNat := rfl
    omega
  rw [e] at hz
  rw [hz]
  exact ⟨rfl, (PR_k h k.toNat (by omega)).1⟩
theorem PR_f {F : Nat → Int32} {n : Int} {z x : Int32} {k : Int} (h : PR F n) (h0 : 0 ≤ k) (hk : k < n) (ht : (F (4 * k.toNat)).toInt = 4) (hz : z = F x.toNatClampNeg) (hx : x.toInt = 4 * k + 2) : 0 ≤ z.toInt ∧ z.toInt ≤ 9 := by
  have e : x.toNatClampNeg = 4 * k.toNat + 2 := by
    have e1 : x.toNatClampNeg = x.toInt.toNat := rfl
    omega
  rw [e] at hz
  rw [hz]
  exact ((PR_k h k.toNat (by omega)).2.1 ht).1
theorem PR_e {F : Nat → Int32} {n : Int} {z x : Int32} {k : Int} (h : PR F n) (h0 : 0 ≤ k) (hk : k < n) (ht : (F (4 * k.toNat)).toInt = 4) (hz : z = F x.toNatClampNeg) (hx : x.toInt = 4 * k + 3) : z = F (4 * k.toNat + 3) ∧ k < z.toInt ∧ z.toInt < n := by
  have e : x.toNatClampNeg = 4 * k.toNat + 3 := by
    have e1 : x.toNatClampNeg = x.toInt.toNat := rfl
    omega
  rw [e] at hz
  rcases ((PR_k h k.toNat (by omega)).2.1 ht).2 with r | r
  · exact r.elim
  · rw [← hz] at r
    exact ⟨hz, by omega, r.2.1⟩
theorem PR_b {F : Nat → Int32} {n : Int} {z x : Int32} {k : Int} (h : PR F n) (h0 : 0 ≤ k) (hk : k < n) (ht : (F (4 * k.toNat)).toInt = 5) (hz : z = F x.toNatClampNeg) (hx : x.toInt = 4 * k + 1) : z.toInt = (F (4 * k.toNat + 1)).toInt ∧ 0 ≤ z.toInt ∧ z.toInt < k ∧ 1 ≤ dep F k.toNat := by
  have e : x.toNatClampNeg = 4 * k.toNat + 1 := by
    have e1 : x.toNatClampNeg = x.toInt.toNat := rfl
    omega
  rw [e] at hz
  obtain ⟨a1, a2, a3⟩ := (PR_k h k.toNat (by omega)).2.2 ht
  have dk : dep F (k.toNat + 1) = dep F k.toNat - 1 := by
    show dep F k.toNat + dl (F (4 * k.toNat)).toInt = _
    rw [ht, dl_5]
    omega
  have hb3 := PR_n h (k.toNat + 1) (by omega)
  rw [hz]
  exact ⟨rfl, a1, by omega, by omega⟩
theorem RD_o {F O : Nat → Int32} {n o : Int} {z x : Int32} (h : RD F n O o) (hz : z = O x.toNatClampNeg) (h0 : 0 ≤ x.toInt) (hx : x.toInt < o) : z = O x.toInt.toNat ∧ 0 ≤ z.toInt ∧ z.toInt < n := by
  have e1 : x.toNatClampNeg = x.toInt.toNat := rfl
  rw [e1] at hz
  obtain ⟨a, b, -, -⟩ := h.2.2.2 x.toInt.toNat (by omega)
  rw [hz]
  exact ⟨rfl, a, b⟩
theorem clo_a {O : Nat → Int32} {z x : Int32} {o : Int} (hz : z = O x.toNatClampNeg) (hx : x.toInt = o) : z = O o.toNat := by
  have e1 : x.toNatClampNeg = x.toInt.toNat := rfl
  rw [e1, hx] at hz
  exact hz
