-- MY OWN ROWS: what the reference's world must be, by its places
def wat (F : Nat → Int32) (k : Nat) : Int := (F k).toInt
def wfo (F : Nat → Int32) (j : Nat) (g : Int) : Int := (F (188 + 6 * g.toNat + j)).toInt
def wfl (F : Nat → Int32) (g : Int) : Prop := (0 ≤ wfo F 1 g ∧ wfo F 1 g ≤ 9) ∧ (0 ≤ wfo F 2 g ∧ wfo F 2 g ≤ 9) ∧ (wfo F 0 g ≠ 3 → wfo F 1 g ≤ 5) ∧ (wfo F 0 g = 3 → 1 ≤ wfo F 3 g ∧ wfo F 3 g ≤ 9)
def whd (c : Int) (F : Nat → Int32) : Prop := (0 ≤ wat F 1 ∧ wat F 1 ≤ 60) ∧ (0 ≤ wat F 4 ∧ wat F 4 ≤ 6) ∧ (0 ≤ wat F 5 ∧ wat F 5 ≤ 24) ∧ (0 ≤ wat F 6 ∧ wat F 6 ≤ 10) ∧ (0 ≤ wat F 7 ∧ wat F 7 ≤ 4) ∧ (1 ≤ wat F 9 ∧ wat F 9 ≤ 60) ∧ (0 ≤ wat F 18 ∧ wat F 18 ≤ c) ∧ (wat F 6 = 0 ∨ 1 ≤ wat F 1)
def WI (c : Int) (F : Nat → Int32) : Prop := whd c F ∧ (∀ n : Nat, n < 24 → 0 ≤ wat F (23 + 7 * n) ∧ wat F (23 + 7 * n) ≤ 60) ∧ (∀ g : Int, 0 ≤ g → g < 10 → wfl F g) ∧ (∀ p : Nat, p < 4 → (0 ≤ wat F (248 + 3 * p) ∧ wat F (248 + 3 * p) ≤ 9) ∧ ((p : Int) < wat F 7 → 2 ≤ wat F (250 + 3 * p)))
theorem wat_lit {F : Nat → Int32} {x : Int32} {z : Int32} {k : Nat} (e : z = F x.toNatClampNeg) (h : x.toNatClampNeg = k) : z.toInt = wat F k := by rw [e, h]; rfl
theorem WI_congr {c : Int} {F G : Nat → Int32} (h : WI c F) (e : ∀ k : Nat, k < 260 → k ≠ 0 → ¬ (11 ≤ k ∧ k ≤ 17) → k ≠ 19 → ¬ (20 ≤ k ∧ k < 188 ∧ 5 ≤ (k - 20) % 7) → G k = F k) : WI c G := by
  have w : ∀ k : Nat, k < 260 → k ≠ 0 → ¬ (11 ≤ k ∧ k ≤ 17) → k ≠ 19 → ¬ (20 ≤ k ∧ k < 188 ∧ 5 ≤ (k - 20) % 7) → wat G k = wat F k := fun k h1 h2 h3 h4 h5 => by unfold wat; rw [e k h1 h2 h3 h4 h5]
  have wo : ∀ (j : Nat) (g : Int), 0 ≤ g → g < 10 → j < 4 → wfo G j g = wfo F j g := fun j g h1 h2 h3 => by unfold wfo; rw [e _ (by omega) (by omega) (by omega) (by omega) (by omega)]
  obtain ⟨hh, hn, hf, hp⟩ := h
  refine ⟨?_, ?_, ?_, ?_⟩
  · unfold whd at hh ⊢
    rw [w 1 (by omega) (by omega) (by omega) (by omega) (by omega), w 4 (by omega) (by omega) (by omega) (by omega) (by omega), w 5 (by omega) (by omega) (by omega) (by omega) (by omega), w 6 (by omega) (by omega) (by omega) (by omega) (by omega), w 7 (by omega) (by omega) (by omega) (by omega) (by omega), w 9 (by omega) (by omega) (by omega) (by omega) (by omega), w 18 (by omega) (by omega) (by omega) (by omega) (by omega)]
    exact hh
  · intro n hn9
    rw [w _ (by omega) (by omega) (by omega) (by omega) (by omega)]
    exact hn n hn9
  · intro g h1 h2
    have q := hf g h1 h2
    unfold wfl at q ⊢
    rw [wo 0 g h1 h2 (by omega), wo 1 g h1 h2 (by omega), wo 2 g h1 h2 (by omega), wo 3 g h1 h2 (by omega)]
    exact q
  · intro p h1
    rw [w _ (by omega) (by omega) (by omega) (by omega) (by omega), w 7 (by omega) (by omega) (by omega) (by omega) (by omega), w (250 + 3 * p) (by omega) (by omega) (by omega) (by omega) (by omega)]
    exact hp p h1
theorem WI_free {c : Int} {F : Nat → Int32} {ix v : Int32} (h : WI c F) (h0 : 0 ≤ ix.toInt) (hk : ix.toInt = 0 ∨ (11 ≤ ix.toInt ∧ ix.toInt ≤ 17) ∨ ix.toInt = 19 ∨ (20 ≤ ix.toInt ∧ ix.toInt < 188 ∧ 5 ≤ (ix.toInt - 20) % 7) ∨ 260 ≤ ix.toInt) : WI c (upd F ix.toNatClampNeg v) := by
  refine WI_congr h (fun k h1 h2 h3 h4 h5 => ?_)
  have e : ix.toNatClampNeg = ix.toInt.toNat := rfl
  simp only [upd]
  rw [if_neg (by omega)]
theorem WI_mono {c d : Int} {F : Nat → Int32} (h : WI c F) (hcd : c ≤ d) : WI d F := by
  obtain ⟨hh, r⟩ := h
  refine ⟨?_, r⟩
  unfold whd at hh ⊢
  omega
theorem WI_turn {c : Int} {F : Nat → Int32} {v : Int32} (h : WI c F) (hv : v.toInt = wat F 18 + 1) : WI (c + 1) (upd F (18 : Int32).toNatClampNeg v) := by
  have e : (18 : Int32).toNatClampNeg = 18 := by decide
  rw [e]
  have w : ∀ k : Nat, k ≠ 18 → wat (upd F 18 v) k = wat F k := fun k hk => by unfold wat; simp only [upd]; rw [if_neg hk]
  have w18 : wat (upd F 18 v) 18 = v.toInt := by unfold wat; simp [upd]
  have wo : ∀ (j : Nat) (g : Int), wfo (upd F 18 v) j g = wfo F j g := fun j g => by unfold wfo; simp only [upd]; rw [if_neg (by omega)]
  obtain ⟨hh, hn, hf, hp⟩ := h
  refine ⟨?_, ?_, ?_, ?_⟩
  · unfold whd at hh ⊢
    rw [w 1 (by omega), w 4 (by omega), w 5 (by omega), w 6 (by omega), w 7 (by omega), w 9 (by omega), w18]
    omega
  · intro n hn9
    rw [w _ (by omega)]
    exact hn n hn9
  · intro g h1 h2
    have q := hf g h1 h2
    unfold wfl at q ⊢
    rw [wo, wo, wo, wo]
    exact q
  · intro p h1
    rw [w _ (by omega), w 7 (by omega), w (250 + 3 * p) (by omega)]
    exact hp p h1
theorem in_int {r : Int32} {v lo hi : Int64} {V L M : Int} (hv : v.toInt = V) (hl : lo.toInt = L) (hh : hi.toInt = M) (h : r.toInt ≠ 0 → lo.toInt ≤ v.toInt ∧ v.toInt ≤ hi.toInt) : r.toInt ≠ 0 → L ≤ V ∧ V ≤ M := by
  subst hv
  subst hl
  subst hh
  exact h
def MI (_ : Nat → Int32) : Prop := True
theorem WI_nose {c : Int} {F : Nat → Int32} {ix v : Int32} (h : WI c F) (h1 : 20 ≤ ix.toInt) (h2 : ix.toInt < 188) (hv : (ix.toInt - 20) % 7 = 3 → 0 ≤ v.toInt ∧ v.toInt ≤ 60) : WI c (upd F ix.toNatClampNeg v) := by
  have e : ix.toNatClampNeg = ix.toInt.toNat := rfl
  have w : ∀ k : Nat, (k < 20 ∨ 188 ≤ k) → wat (upd F ix.toNatClampNeg v) k = wat F k := fun k hk => by unfold wat; simp only [upd]; rw [if_neg (by omega)]
  have wo : ∀ (j : Nat) (g : Int), wfo (upd F ix.toNatClampNeg v) j g = wfo F j g := fun j g => by unfold wfo; simp only [upd]; rw [if_neg (by omega)]
  obtain ⟨hh, hn, hf, hp⟩ := h
  refine ⟨?_, ?_, ?_, ?_⟩
  · unfold whd at hh ⊢
    rw [w 1 (by omega), w 4 (by omega), w 5 (by omega), w 6 (by omega), w 7 (by omega), w 9 (by omega), w 18 (by omega)]
    exact hh
  · intro n hn9
    by_cases q : 23 + 7 * n = ix.toInt.toNat
    · have e2 : wat (upd F ix.toNatClampNeg v) (23 + 7 * n) = v.toInt := by unfold wat; simp only [upd]; rw [if_pos (by omega)]
      rw [e2]
      exact hv (by omega)
    · have e2 : wat (upd F ix.toNatClampNeg v) (23 + 7 * n) = wat F (23 + 7 * n) := by unfold wat; simp only [upd]; rw [if_neg (by omega)]
      rw [e2]
      exact hn n hn9
  · intro g g1 g2
    have q := hf g g1 g2
    unfold wfl at q ⊢
    rw [wo, wo, wo, wo]
    exact q
  · intro p p1
    rw [w _ (by omega), w 7 (by omega), w (250 + 3 * p) (by omega)]
    exact hp p p1
def KN (k : Int) (G : Nat → Int32) : Prop := ∀ n : Nat, 7 * (n : Int) + 3 < k → 0 ≤ wat G (7 * n + 3) ∧ wat G (7 * n + 3) ≤ 60
theorem KN_0 {k : Int} {G : Nat → Int32} (h : k ≤ 3) : KN k G := fun n hn => by omega
theorem KN_mono {k j : Int} {G : Nat → Int32} (h : KN k G) (hj : j ≤ k) : KN j G := fun n hn => h n (by omega)
theorem KN_step {c : Int} {F G : Nat → Int32} {k v x : Int32} (h : KN k.toInt G) (hW : WI c F) (hv : v.toInt = (F x.toInt.toNat).toInt) (hx : x.toInt = 20 + k.toInt) (h1 : 0 ≤ k.toInt) (h2 : k.toInt < 168) : KN (k.toInt + 1) (upd G k.toNatClampNeg v) := by
  intro n hn
  have e : k.toNatClampNeg = k.toInt.toNat := rfl
  by_cases q : 7 * n + 3 = k.toInt.toNat
  · have e2 : wat (upd G k.toNatClampNeg v) (7 * n + 3) = v.toInt := by unfold wat; simp only [upd]; rw [if_pos (by omega)]
    have e3 : x.toInt.toNat = 23 + 7 * n := by omega
    have w := hW.2.1 n (by omega)
    unfold wat at w
    rw [e2, hv, e3]
    exact w
  · have e2 : wat (upd G k.toNatClampNeg v) (7 * n + 3) = wat G (7 * n + 3) := by unfold wat; simp only [upd]; rw [if_neg (by omega)]
    rw [e2]
    exact h n (by omega)
theorem KN_get {k : Int} {G : Nat → Int32} {z i : Int32} (h : KN k G) (hz : z.toInt = (G i.toInt.toNat).toInt) (h0 : 0 ≤ i.toInt) (h1 : i.toInt % 7 = 3) (h2 : i.toInt < k) : 0 ≤ z.toInt ∧ z.toInt ≤ 60 := by
  have w := h (i.toInt.toNat / 7) (by omega)
  have e : 7 * (i.toInt.toNat / 7) + 3 = i.toInt.toNat := by omega
  rw [e] at w
  unfold wat at w
  rw [hz]
  exact w
def CP (F G0 : Nat → Int32) (sp dp i : Int) (G : Nat → Int32) : Prop := (∀ j : Nat, (j : Int) < i → G (dp.toNat + j) = F (sp.toNat + j)) ∧ ∀ k : Nat, ((k : Int) < dp ∨ dp + i ≤ (k : Int)) → G k = G0 k
theorem CP_0 {F G : Nat → Int32} {sp dp i : Int} (h : i ≤ 0) : CP F G sp dp i G := ⟨fun j hj => by omega, fun k _ => rfl⟩
theorem CP_step {F G0 G : Nat → Int32} {sp dp i : Int} {ix v x : Int32} (h : CP F G0 sp dp i G) (hv : v = F x.toNatClampNeg) (hx : x.toInt = sp + i) (hix : ix.toInt = dp + i) (h0 : 0 ≤ i) (h1 : 0 ≤ sp) (h2 : 0 ≤ dp) : CP F G0 sp dp (i + 1) (upd G ix.toNatClampNeg v) := by
  have e : ix.toNatClampNeg = ix.toInt.toNat := rfl
  have e1 : x.toNatClampNeg = x.toInt.toNat := rfl
  refine ⟨fun j hj => ?_, fun k hk => ?_⟩
  · simp only [upd]
    by_cases q : dp.toNat + j = ix.toNatClampNeg
    · rw [if_pos q, hv]
      have e3 : x.toNatClampNeg = sp.toNat + j := by omega
      rw [e3]
    · rw [if_neg q]
      exact h.1 j (by omega)
  · simp only [upd]
    rw [if_neg (by omega)]
    exact h.2 k (by omega)
def IMG (c : Int) (G H : Nat → Int32) : Prop := ∀ k : Int, 0 ≤ k → k < 3 → (H k.toNat).toInt ≠ 0 → WI c (fun j => G ((544 * k).toNat + j))
theorem IMG_mono {c d : Int} {G H : Nat → Int32} (h : IMG c G H) (hcd : c ≤ d) : IMG d G H := fun k h1 h2 h3 => WI_mono (h k h1 h2 h3) hcd
theorem IMG_back {c : Int} {F G H F0 : Nat → Int32} {k : Int32} {i : Int} (h : IMG c G H) (h1 : 0 ≤ k.toInt) (h2 : k.toInt < 3) (h3 : (H k.toInt.toNat).toInt ≠ 0) (hc : CP G F0 (544 * k.toInt) 0 i F) (hi : 544 ≤ i) : WI c F := by
  refine WI_congr (h k.toInt h1 h2 h3) (fun j hj _ _ _ _ => ?_)
  have q := hc.1 j (by omega)
  simpa using q
theorem IMG_keep {c : Int} {F G G0 H : Nat → Int32} {k : Int32} {i : Int} (h : IMG c G0 H) (hW : WI c F) (h1 : 0 ≤ k.toInt) (h2 : k.toInt < 3) (hc : CP F G0 0 (544 * k.toInt) i G) (hi : i = 544) (v : Int32) : IMG c G (upd H k.toNatClampNeg v) := by
  intro j j1 j2 j3
  have e : k.toNatClampNeg = k.toInt.toNat := rfl
  by_cases q : j = k.toInt
  · subst q
    refine WI_congr hW (fun n hn _ _ _ _ => ?_)
    have w := hc.1 n (by omega)
    simpa using w
  · have w := h j j1 j2 (by simp only [upd] at j3; rw [if_neg (by omega)] at j3; exact j3)
    refine WI_congr w (fun n hn _ _ _ _ => ?_)
    exact hc.2 _ (by omega)
theorem in_int2 {r : Int32} {v lo hi : Int64} {V L M : Int} (hv : v.toInt = V) (hl : lo.toInt = L) (hh : hi.toInt = M) (h : r.toInt ≠ 1 → v.toInt < lo.toInt ∨ hi.toInt < v.toInt) : r.toInt ≠ 1 → V < L ∨ M < V := by
  subst hv
  subst hl
  subst hh
  exact h
def seeF (B : Nat → Int32) (sz k : Int) : Int := if k < sz then (B k.toNat &&& 255).toInt else -1
def isC (B : Nat → Int32) (fr an tk fk : Int) (n : Nat) (f : Nat → Int32) (k : Int) : Prop := (fk = 0 ∧ tk = 1 ∧ an - fr = (n : Int)) ∧ ∀ j : Nat, (j : Int) < k → B (fr.toNat + j) = f j &&& 255
noncomputable def isR (B : Nat → Int32) (fr an tk fk : Int) (n : Nat) (f : Nat → Int32) : Int := @ite Int (isC B fr an tk fk n f n) (Classical.propDecidable _) 1 0
theorem isC_step1 {B : Nat → Int32} {fr an tk fk : Int} {n : Nat} {f : Nat → Int32} {k : Int} {xb r x9 : Int32} (h : isC B fr an tk fk n f k) (hb : xb = B x9.toNatClampNeg) (hx : x9.toInt = fr + k) (hr : r = f k.toNat &&& 255) (he : xb.toInt = r.toInt) (hk : 0 ≤ k) (hf : 0 ≤ fr) : isC B fr an tk fk n f (k + 1) := by
  refine ⟨h.1, fun j hj => ?_⟩
  have e : x9.toNatClampNeg = x9.toInt.toNat := rfl
  by_cases q : (j : Int) < k
  · exact h.2 j q
  · have e1 : fr.toNat + j = x9.toNatClampNeg := by omega
    have e2 : j = k.toNat := by omega
    rw [e1, ← hb, Int32.toInt_inj.mp he, hr, e2]
theorem isC_step0 {B : Nat → Int32} {fr an tk fk : Int} {n : Nat} {f : Nat → Int32} {k : Int} {xb r x9 : Int32} (hb : xb = B x9.toNatClampNeg) (hx : x9.toInt = fr + k) (hr : r = f k.toNat &&& 255) (he : xb.toInt ≠ r.toInt) (hk : 0 ≤ k) (hf : 0 ≤ fr) : ¬ isC B fr an tk fk n f (k + 1) := by
  intro h
  have e : x9.toNatClampNeg = x9.toInt.toNat := rfl
  have q := h.2 k.toNat (by omega)
  have e1 : fr.toNat + k.toNat = x9.toNatClampNeg := by omega
  rw [e1, ← hb, ← hr] at q
  exact he (by rw [q])
theorem isR_1 {B : Nat → Int32} {fr an tk fk : Int} {n : Nat} {f : Nat → Int32} {k : Int} {w : Int32} (h : (w.toInt = 1 ∨ w.toInt = 0) ∧ (w.toInt = 1 ↔ isC B fr an tk fk n f k)) (hk : k = (n : Int)) : w.toInt = isR B fr an tk fk n f := by
  subst hk
  unfold isR
  rcases h.1 with q | q
  · rw [if_pos (h.2.mp q), q]
  · rw [if_neg (fun z => by have := h.2.mpr z; omega), q]
theorem isR_0 {B : Nat → Int32} {fr an tk fk : Int} {n : Nat} {f : Nat → Int32} {k : Int} {w : Int32} (h : (w.toInt = 1 ∨ w.toInt = 0) ∧ (w.toInt = 1 ↔ isC B fr an tk fk n f k)) (hw : w.toInt = 0) (hk : k ≤ (n : Int)) : w.toInt = isR B fr an tk fk n f := by
  unfold isR
  rw [if_neg (fun z => by have := h.2.mpr ⟨z.1, fun j hj => z.2 j (by omega)⟩; omega), hw]
