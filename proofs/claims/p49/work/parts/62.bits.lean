-- MY OWN ROWS: sets of motions as bits
theorem ia_andl {a m : Int32} (h : 0 ≤ a.toInt) : 0 ≤ (a &&& m).toInt ∧ (a &&& m).toInt ≤ a.toInt := by
  rw [Int32.and_comm]
  exact ia_and h
theorem io_255 {a b : Int32} (h1 : 0 ≤ a.toInt) (h2 : a.toInt ≤ 255) (h3 : 0 ≤ b.toInt) (h4 : b.toInt ≤ 255) : 0 ≤ (a ||| b).toInt ∧ (a ||| b).toInt ≤ 255 := by
  have e : (a ||| b).toBitVec = a.toBitVec ||| b.toBitVec := rfl
  have a2 : 2 * a.toBitVec.toNat < 2 ^ 32 := BitVec.toInt_pos_iff.mp h1
  have b2 : 2 * b.toBitVec.toNat < 2 ^ 32 := BitVec.toInt_pos_iff.mp h3
  have qa : a.toBitVec.toInt = a.toBitVec.toNat := BitVec.toInt_eq_toNat_of_lt a2
  have qb : b.toBitVec.toInt = b.toBitVec.toNat := BitVec.toInt_eq_toNat_of_lt b2
  have ra : a.toInt = a.toBitVec.toInt := rfl
  have rb : b.toInt = b.toBitVec.toInt := rfl
  have h5 : (a ||| b).toBitVec.toNat < 2 ^ 8 := by
    rw [e, BitVec.toNat_or]
    exact Nat.or_lt_two_pow (by omega) (by omega)
  have q1 : (a ||| b).toBitVec.toInt = (a ||| b).toBitVec.toNat := BitVec.toInt_eq_toNat_of_lt (by omega)
  have q3 : (a ||| b).toInt = (a ||| b).toBitVec.toInt := rfl
  omega
theorem i_of {b : Int32} {n : Int} {c : Int32} (h : b.toInt = n) (hc : c.toInt = n) : b = c := (ki_eq _ _).mpr (h.trans hc.symm)
def P2 (j : Nat) : Int := ((2 ^ j : Nat) : Int)
def top8 (b : Int32) : Int := ((1 : Int32) <<< (b &&& 31)).toInt
theorem is_7 {b : Int32} (h1 : 0 ≤ b.toInt) (h2 : b.toInt ≤ 7) : (1 : Int) ≤ ((1 : Int32) <<< (b &&& 31)).toInt ∧ ((1 : Int32) <<< (b &&& 31)).toInt ≤ 128 := by
  rcases (show b.toInt = 0 ∨ b.toInt = 1 ∨ b.toInt = 2 ∨ b.toInt = 3 ∨ b.toInt = 4 ∨ b.toInt = 5 ∨ b.toInt = 6 ∨ b.toInt = 7 by omega) with q | q | q | q | q | q | q | q
  · rw [i_of (c := 0) q (by decide)]; decide
  · rw [i_of (c := 1) q (by decide)]; decide
  · rw [i_of (c := 2) q (by decide)]; decide
  · rw [i_of (c := 3) q (by decide)]; decide
  · rw [i_of (c := 4) q (by decide)]; decide
  · rw [i_of (c := 5) q (by decide)]; decide
  · rw [i_of (c := 6) q (by decide)]; decide
  · rw [i_of (c := 7) q (by decide)]; decide
theorem top_b {b : Int32} (h1 : 1 ≤ b.toInt) (h2 : b.toInt ≤ 8) : 2 ≤ top8 b ∧ top8 b ≤ 256 ∧ ∀ j : Nat, j < 8 → P2 j < top8 b → (j : Int) < b.toInt := by
  unfold top8 P2
  rcases (show b.toInt = 1 ∨ b.toInt = 2 ∨ b.toInt = 3 ∨ b.toInt = 4 ∨ b.toInt = 5 ∨ b.toInt = 6 ∨ b.toInt = 7 ∨ b.toInt = 8 by omega) with q | q | q | q | q | q | q | q
  · rw [i_of (c := 1) q (by decide)]; decide +kernel
  · rw [i_of (c := 2) q (by decide)]; decide +kernel
  · rw [i_of (c := 3) q (by decide)]; decide +kernel
  · rw [i_of (c := 4) q (by decide)]; decide +kernel
  · rw [i_of (c := 5) q (by decide)]; decide +kernel
  · rw [i_of (c := 6) q (by decide)]; decide +kernel
  · rw [i_of (c := 7) q (by decide)]; decide +kernel
  · rw [i_of (c := 8) q (by decide)]; decide +kernel
theorem bit_j {s i x y : Int32} {j : Nat} (hj : j < 8) (hs : s.toInt = P2 j) (h0 : 0 ≤ i.toInt) (h7 : i.toInt ≤ 7) (hx : x = s >>> (i &&& 31)) (hy : y = x &&& 1) : y.toInt = 1 ↔ i.toInt = (j : Int) := by
  have es : s = Int32.ofInt (P2 j) := by rw [← hs]; exact (Int32.ofInt_toInt s).symm
  subst hy
  subst hx
  rw [es]
  clear es hs
  revert j
  unfold P2
  rcases (show i.toInt = 0 ∨ i.toInt = 1 ∨ i.toInt = 2 ∨ i.toInt = 3 ∨ i.toInt = 4 ∨ i.toInt = 5 ∨ i.toInt = 6 ∨ i.toInt = 7 by omega) with q | q | q | q | q | q | q | q
  · rw [i_of (c := 0) q (by decide)]; decide +kernel
  · rw [i_of (c := 1) q (by decide)]; decide +kernel
  · rw [i_of (c := 2) q (by decide)]; decide +kernel
  · rw [i_of (c := 3) q (by decide)]; decide +kernel
  · rw [i_of (c := 4) q (by decide)]; decide +kernel
  · rw [i_of (c := 5) q (by decide)]; decide +kernel
  · rw [i_of (c := 6) q (by decide)]; decide +kernel
  · rw [i_of (c := 7) q (by decide)]; decide +kernel
theorem P2_b (j : Nat) (hj : j < 8) : 1 ≤ P2 j ∧ P2 j ≤ 128 := by
  revert j
  unfold P2
  decide +kernel
def SB (st : Int) (F : Nat → Int32) (s i : Int) : Prop := ∀ j : Nat, j < 8 → s = P2 j → (i ≤ (j : Int) → (F s.toNat).toInt = 0) ∧ ((j : Int) < i → (F s.toNat).toInt ≤ st)
def SP (st : Int) (F : Nat → Int32) (s : Int) : Prop := ∀ j : Nat, j < 8 → P2 j < s → (F (P2 j).toNat).toInt ≤ st
theorem SP_0 {st : Int} {F : Nat → Int32} {s : Int} (h : s ≤ 0) : SP st F s := fun j hj q => by
  have := P2_b j hj
  omega
theorem SP_upd {st : Int} {F : Nat → Int32} {s : Int} {x v : Int32} (h : SP st F s) (hx : x.toInt = s) : SP st (upd F x.toNatClampNeg v) s := fun j hj q => by
  have := P2_b j hj
  rw [upd_nej (by omega)]
  exact h j hj q
theorem SB_init {st : Int} {F : Nat → Int32} {x v : Int32} {s i : Int} (hs : x.toInt = s) (hv : v.toInt = 0) (hi : i = 0) : SB st (upd F x.toNatClampNeg v) s i := fun j hj e => by
  refine ⟨fun _ => ?_, fun h => by omega⟩
  rw [upd_eqj (by omega)]
  exact hv
theorem SB_one {st : Int} {F : Nat → Int32} {x z a v i32 b1 b2 : Int32} {s i i2 : Int} (h : SB st F s i) (hx : x.toInt = s) (hz : z = F x.toNatClampNeg) (hv : v = z + a) (ha : a.toInt ≤ st) (hi : i32.toInt = i) (h0 : 0 ≤ i) (h7 : i ≤ 7) (hb1 : b1 = x >>> (i32 &&& 31)) (hb2 : b2 = b1 &&& 1) (hb : b2.toInt = 1) (hi2 : i2 = i + 1) : SB st (upd F x.toNatClampNeg v) s i2 := fun j hj e => by
  have q := (bit_j hj (hx.trans e) (by omega) (by omega) hb1 hb2).mp hb
  refine ⟨fun r => by omega, fun r => ?_⟩
  have e1 : x.toNatClampNeg = s.toNat := by
    have e9 : x.toNatClampNeg = x.toInt.toNat := rfl
    omega
  have z0 := (h j hj e).1 (by omega)
  rw [← e1, ← hz] at z0
  have z1 : z = 0 := (ki_eq _ _).mpr (z0.trans (by decide))
  rw [upd_eqj (by omega), hv, z1, Int32.zero_add]
  exact ha
theorem SB_zero {st : Int} {F : Nat → Int32} {x z a v i32 b1 b2 : Int32} {s i i2 : Int} (h : SB st F s i) (hx : x.toInt = s) (hz : z = F x.toNatClampNeg) (hv : v = z + a) (ha : a.toInt = 0) (hi : i32.toInt = i) (h0 : 0 ≤ i) (h7 : i ≤ 7) (hb1 : b1 = x >>> (i32 &&& 31)) (hb2 : b2 = b1 &&& 1) (hb : b2.toInt ≠ 1) (hi2 : i2 = i + 1) : SB st (upd F x.toNatClampNeg v) s i2 := fun j hj e => by
  have q : ¬ i32.toInt = (j : Int) := fun r => hb ((bit_j hj (hx.trans e) (by omega) (by omega) hb1 hb2).mpr r)
  have e1 : x.toNatClampNeg = s.toNat := by
    have e9 : x.toNatClampNeg = x.toInt.toNat := rfl
    omega
  have a0 : a = 0 := (ki_eq _ _).mpr (ha.trans (by decide))
  have hn : upd F x.toNatClampNeg v s.toNat = F s.toNat := by rw [upd_eqj (by omega), hv, a0, Int32.add_zero, hz, e1]
  rw [hn]
  exact ⟨fun r => (h j hj e).1 (by omega), fun r => (h j hj e).2 (by omega)⟩
theorem SP_next {st : Int} {F : Nat → Int32} {s m s2 : Int} {b z : Int32} (h : SP st F s) (hb : SB st F s m) (h1 : 1 ≤ b.toInt) (h8 : b.toInt ≤ 8) (hm : b.toInt ≤ m) (hz : z = (1 : Int32) <<< (b &&& 31)) (hs : s < z.toInt) (h2 : s2 = s + 1) : SP st F s2 := fun j hj q => by
  by_cases e : s = P2 j
  · have t := (top_b h1 h8).2.2 j hj (by unfold top8; rw [← hz]; omega)
    have r := (hb j hj e).2 (by omega)
    rw [e] at r
    exact r
  · exact h j hj (by omega)
def pop (s : Nat) : Int := ((s % 2 + s / 2 % 2 + s / 4 % 2 + s / 8 % 2 + s / 16 % 2 + s / 32 % 2 + s / 64 % 2 + s / 128 % 2 : Nat) : Int)
def lj (s : Nat) : Nat := if s % 2 = 1 then 0 else if s / 2 % 2 = 1 then 1 else if s / 4 % 2 = 1 then 2 else if s / 8 % 2 = 1 then 3 else if s / 16 % 2 = 1 then 4 else if s / 32 % 2 = 1 then 5 else if s / 64 % 2 = 1 then 6 else 7
theorem lj_f : ∀ s : Nat, s < 256 → 1 ≤ s → lj s < 8 ∧ P2 (lj s) ≤ (s : Int) ∧ (Int32.ofNat s &&& (Int32.ofInt (P2 (lj s)) ^^^ -1)).toInt = (s : Int) - P2 (lj s) ∧ pop ((s : Int) - P2 (lj s)).toNat + 1 = pop s ∧ (Int32.ofInt (P2 (lj s)) &&& (Int32.ofNat s ^^^ -1)).toInt = 0 := by
  unfold P2
  decide +kernel
theorem pop_8 (s : Nat) : 0 ≤ pop s ∧ pop s ≤ 8 := by
  unfold pop
  omega
theorem pop_0 : pop 0 = 0 := by decide
def FQ (F : Nat → Int32) (s : Int) : Prop := ∀ t : Nat, (t : Int) < s → 0 ≤ (F t).toInt ∧ (F t).toInt ≤ pop t ∧ (1 ≤ t → 1 ≤ (F t).toInt)
def FC (F : Nat → Int32) (s p : Int) : Prop := (0 ≤ (F s.toNat).toInt ∧ (F s.toNat).toInt ≤ 9) ∧ (s = 0 → (F s.toNat).toInt = 0) ∧ (1 ≤ s → 1 ≤ (F s.toNat).toInt) ∧ (1 ≤ s → P2 (lj s.toNat) < p → (F s.toNat).toInt ≤ pop s.toNat)
theorem FQ_0 {F : Nat → Int32} {s : Int} (h : s ≤ 0) : FQ F s := fun t ht => by omega
theorem FQ_upd {F : Nat → Int32} {s : Int} {x v : Int32} (h : FQ F s) (hx : x.toInt = s) : FQ (upd F x.toNatClampNeg v) s := fun t ht => by
  rw [upd_nej (by omega)]
  exact h t ht
theorem FC_init {F : Nat → Int32} {s p : Int} {x v : Int32} (hx : x.toInt = s) (h0 : 0 ≤ s) (h8 : s < 256) (hp : p = 1) (hv : (s = 0 ∧ v.toInt = 0) ∨ (1 ≤ s ∧ v.toInt = 9)) : FC (upd F x.toNatClampNeg v) s p := by
  unfold FC
  rw [upd_eqj (by omega)]
  refine ⟨by omega, fun _ => by omega, fun _ => by omega, fun h1 h2 => ?_⟩
  have := P2_b _ (lj_f s.toNat (by omega) (by omega)).1
  omega
theorem low_x {s : Int} {x y : Int32} (hx : x.toInt = s) (h1 : 1 ≤ s) (h8 : s < 256) (hy : y.toInt = P2 (lj s.toNat)) : (x &&& (y ^^^ -1)).toInt = s - P2 (lj s.toNat) ∧ (y &&& (x ^^^ -1)).toInt = 0 := by
  have q := lj_f s.toNat (by omega) (by omega)
  have ex : x = Int32.ofNat s.toNat := by
    have e1 : (Int32.ofNat s.toNat).toInt = s := by
      rw [Int32.toInt_ofNat_of_lt (by omega)]
      omega
    exact (ki_eq _ _).mpr (hx.trans e1.symm)
  have ey : y = Int32.ofInt (P2 (lj s.toNat)) := by rw [← hy]; exact (Int32.ofInt_toInt y).symm
  rw [← ex, ← ey] at q
  obtain ⟨q1, q2, q3, q4, q5⟩ := q
  exact ⟨by omega, q5⟩
theorem FC_skip1 {F : Nat → Int32} {s p p2 : Int} {x y u w : Int32} (h : FC F s p) (hx : x.toInt = s) (h0 : 0 ≤ s) (h8 : s < 256) (hy : y.toInt = p) (hu : u = x ^^^ -1) (hw : w = y &&& u) (hne : w.toInt ≠ 0) (hp : p2 = p + 1) : FC F s p2 := by
  obtain ⟨a, b, c, d⟩ := h
  refine ⟨a, b, c, fun h1 h2 => ?_⟩
  by_cases e : P2 (lj s.toNat) = p
  · exfalso
    have q := (low_x hx h1 h8 (hy.trans e.symm)).2
    rw [← hu, ← hw] at q
    exact hne q
  · exact d h1 (by omega)
theorem FC_skip2 {F S : Nat → Int32} {s p p2 st : Int} {y z : Int32} (h : FC F s p) (h0 : 0 ≤ s) (h8 : s < 256) (hy : y.toInt = p) (hS : SP st S (s + 1)) (hz : z = S y.toNatClampNeg) (hne : st < z.toInt) (hp : p2 = p + 1) : FC F s p2 := by
  obtain ⟨a, b, c, d⟩ := h
  refine ⟨a, b, c, fun h1 h2 => ?_⟩
  by_cases e : P2 (lj s.toNat) = p
  · exfalso
    obtain ⟨q1, q2, -⟩ := lj_f s.toNat (by omega) (by omega)
    have q := hS _ q1 (by omega)
    have e1 : y.toNatClampNeg = (P2 (lj s.toNat)).toNat := by
      have e9 : y.toNatClampNeg = y.toInt.toNat := rfl
      omega
    rw [e1] at hz
    rw [← hz] at q
    omega
  · exact d h1 (by omega)
theorem few_q {F : Nat → Int32} {s p : Int} {q z : Int32} (hq : FQ F s) (hc : FC F s p) (h0 : 0 ≤ q.toInt) (h1 : q.toInt ≤ s) (hz : z = F q.toNatClampNeg) : 0 ≤ z.toInt ∧ z.toInt ≤ 9 := by
  have e9 : q.toNatClampNeg = q.toInt.toNat := rfl
  rw [e9] at hz
  by_cases e : q.toInt = s
  · rw [e] at hz
    rw [hz]
    exact hc.1
  · have r := hq q.toInt.toNat (by omega)
    have r2 := pop_8 q.toInt.toNat
    rw [← hz] at r
    omega
theorem FC_s {F : Nat → Int32} {s p : Int} {x z : Int32} (hc : FC F s p) (hx : x.toInt = s) (hz : z = F x.toNatClampNeg) : z = F s.toNat ∧ 0 ≤ z.toInt ∧ z.toInt ≤ 9 ∧ (1 ≤ s → 1 ≤ z.toInt) := by
  have e9 : x.toNatClampNeg = x.toInt.toNat := rfl
  rw [e9, hx] at hz
  rw [hz]
  exact ⟨rfl, hc.1.1, hc.1.2, hc.2.2.1⟩
theorem FC_set {F : Nat → Int32} {s p p2 : Int} {x y u q z1 z2 v : Int32} (hq : FQ F s) (h : FC F s p) (hx : x.toInt = s) (h1 : 1 ≤ s) (h8 : s < 256) (hy : y.toInt = p) (hu : u = y ^^^ -1) (hqq : q = x &&& u) (hz1 : z1 = F s.toNat) (hz2 : z2 = F q.toNatClampNeg) (hb0 : 0 ≤ z2.toInt) (hv1 : v.toInt ≤ z1.toInt) (hv2 : v.toInt ≤ 1 + z2.toInt) (hv3 : v.toInt = z1.toInt ∨ v.toInt = 1 + z2.toInt) (hp : p2 = p + 1) : FC (upd F x.toNatClampNeg v) s p2 := by
  obtain ⟨a, b, c, d⟩ := h
  rw [← hz1] at a b c d
  have c1 := c h1
  unfold FC
  rw [upd_eqj (by omega)]
  refine ⟨by omega, fun e => by omega, fun _ => by omega, fun _ h2 => ?_⟩
  by_cases e : P2 (lj s.toNat) = p
  · have r := (low_x hx h1 h8 (hy.trans e.symm)).1
    obtain ⟨q1, q2, -, q4, -⟩ := lj_f s.toNat (by omega) (by omega)
    rw [← hu, ← hqq] at r
    have q5 := P2_b _ q1
    have e9 : q.toNatClampNeg = q.toInt.toNat := rfl
    have t := (hq q.toInt.toNat (by omega)).2.1
    rw [← e9, ← hz2, e9, r] at t
    have e8 : ((s.toNat : Nat) : Int) = s := by omega
    rw [e8] at q4
    omega
  · have := d h1 (by omega)
    omega
theorem FQ_next {F : Nat → Int32} {s p s2 : Int} (hq : FQ F s) (h : FC F s p) (h0 : 0 ≤ s) (h8 : s < 256) (hp : s < p) (h2 : s2 = s + 1) : FQ F s2 := fun t ht => by
  by_cases e : (t : Int) = s
  · have et : t = s.toNat := by omega
    subst et
    obtain ⟨a, b, c, d⟩ := h
    refine ⟨a.1, ?_, fun r => c (by omega)⟩
    by_cases z : s = 0
    · have := b z
      have := pop_8 s.toNat
      omega
    · obtain ⟨q1, q2, -⟩ := lj_f s.toNat (by omega) (by omega)
      exact d (by omega) (by omega)
  · exact hq t (by omega)
def FEW (F : Nat → Int32) (b : Int32) : Prop := ∀ t : Nat, 1 ≤ t → (t : Int) < top8 b → 1 ≤ (F t).toInt ∧ (F t).toInt ≤ 8
theorem FEW_of {F : Nat → Int32} {s : Int} {b z : Int32} (h : FQ F s) (hz : z = (1 : Int32) <<< (b &&& 31)) (hs : z.toInt ≤ s) : FEW F b := fun t h1 h2 => by
  have e : top8 b = z.toInt := by rw [hz]; rfl
  have q := h t (by omega)
  have r := pop_8 t
  omega
theorem FEW_get {F : Nat → Int32} {b z x y : Int32} (h : FEW F b) (h1 : 1 ≤ b.toInt) (h8 : b.toInt ≤ 8) (hz : z = (1 : Int32) <<< (b &&& 31)) (hx : x.toInt = z.toInt - 1) (hy : y = F x.toNatClampNeg) : 1 ≤ y.toInt ∧ y.toInt ≤ 8 := by
  have e : top8 b = z.toInt := by rw [hz]; rfl
  have t := top_b h1 h8
  have e9 : x.toNatClampNeg = x.toInt.toNat := rfl
  rw [hy, e9]
  exact h _ (by omega) (by omega)
def NB (st : Int) (N : Nat → Int64) (sl m : Int) : Prop := ∀ j : Nat, (j : Int) < m → 1 ≤ (N ((60 * sl).toNat + j)).toInt ∧ (N ((60 * sl).toNat + j)).toInt ≤ st
theorem NB_0 {st : Int} {N : Nat → Int64} {sl m : Int} (h : m ≤ 0) : NB st N sl m := fun j hj => by omega
theorem NB_step {st : Int} {N : Nat → Int64} {sl m m2 : Int} {x : Int32} {z : Int64} (h : NB st N sl m) (hz : z = N x.toNatClampNeg) (hx : x.toInt = 60 * sl + m) (h0 : 0 ≤ sl) (h1 : 0 ≤ m) (hb : 1 ≤ z.toInt ∧ z.toInt ≤ st) (h2 : m2 = m + 1) : NB st N sl m2 := fun j hj => by
  by_cases e : (j : Int) = m
  · have e9 : x.toNatClampNeg = x.toInt.toNat := rfl
    have e8 : (60 * sl).toNat + j = x.toNatClampNeg := by omega
    rw [e8, ← hz]
    exact hb
  · exact h j (by omega)
theorem NB_get {st : Int} {N : Nat → Int64} {sl m i : Int} {x : Int32} {z : Int64} {a : Int32} (h : NB st N sl m) (hz : z = N x.toNatClampNeg) (hx : x.toInt = 60 * sl + i) (h0 : 0 ≤ sl) (h1 : 0 ≤ i) (hi : i < m) (ha : a = z.toInt32) (hs : st ≤ 60) : 1 ≤ a.toInt ∧ a.toInt ≤ st := by
  have q := h i.toNat (by omega)
  have e9 : x.toNatClampNeg = x.toInt.toNat := rfl
  have e8 : (60 * sl).toNat + i.toNat = x.toNatClampNeg := by omega
  rw [e8, ← hz] at q
  have r : a.toInt = z.toInt := by
    rw [ha, Int64.toInt_toInt32]
    exact Int.bmod_eq_of_le (by omega) (by omega)
  omega
theorem NB_mono {st : Int} {N : Nat → Int64} {sl m m2 : Int} (h : NB st N sl m) (hm : m2 ≤ m) : NB st N sl m2 := fun j hj => h j (by omega)
