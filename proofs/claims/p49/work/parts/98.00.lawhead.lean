/-! THE CLAIM OUT OF ONE WALK OF THE LAW'S BODY. Your part is whole_start (and what it stands on); all else here is the same for every law, but numbers. -/
def R_law : String := "NoseDrumLaw"
def lw_P (b : Addr) (xs : List Int32) (args : Array Value) (s : State) : Prop := args = #[.ref b] ∧ s.IntsAt b xs ∧ xs.length ≤ 384 ∧ (Jvm.Cond.and given_1 narrow_1).before args s = true
def lw_Q (_ : Array Value) (s : State) (o : Outcome) (t : State) : Prop := o = .returned (some (.int 1)) ∧ Framed s o t [] 600000 7302250
def lw_Z (below : List Frame) (a : Array Value) (s : State) : State → Prop := fun t => ∃ o, t.status = .running ∧ Ended t below o ∧ lw_Q a s o t
/-- the law's own end, with 1 on the stack, nothing written that was there before, its room as the claim has it -/
theorem lw_ret {p : Program} {l : Launch} {e : Env} {s : State} {m : MethodId} {below : List Frame} {meth : Method} {c : Code} {b : Nat} (hx : p.tables.exec = Jvm.exec) (hb : c.code = code) (hr : meth.sig.returnType = ret) (hlocks : meth.locks = false) {pc : Nat} {H : Heap} {ls : Array Slot} (hdg : decode code pc = .ok (.ireturn, 1)) : W p l e room_1 s m #[Value.ref b] below meth c H [] 600000 7302250 (lw_Z below #[Value.ref b] s) (F0 m pc ls [.int 1]) := by
  intro T hT X
  obtain ⟨fs, hret, hrun, hended, hW, hframe⟩ := X.leave (v := some (.int 1)) (hlocks := hlocks) (fun h => by rw [hr] at h; cases h)
  have hmeth' : T.vm.method? m = some meth := X.method'
  refine ⟨T.setFrames fs, ?_, .returned (some (.int 1)), hrun, hended, rfl, ⟨_, rfl⟩, hW, hframe⟩
  jvm_step X.here [X.here.top, hx, hb, hdg, hmeth', hr, ret, narrow_b1]
  (try refine ⟨rfl, ?_⟩); (try refine ⟨rfl, ?_⟩)
  first | (intro acts; rw [hret _ acts rfl rfl rfl]) | rw [hret _ _ rfl rfl rfl]
  exact Steps.refl _
/-- what holds at the law's entry: the machine, the code, the tables' words (any of lw_tbl by 'hts w (by decide +kernel)'), the script of L ints xs at the cell b, what the Statement gives of the start (any of its parts by flat_of_before) -/
def lw_At (p : Program) (s : State) (m : MethodId) (meth : Method) (c : Code) (b L : Nat) (xs : Nat → Int32) : Prop :=
  p.tables.exec = Jvm.exec ∧ c.code = code ∧ meth.sig.returnType = ret ∧ c.maxLocals = 4 ∧ s.vm.findClass R_law = some m.cls ∧ (∀ w ∈ lw_tbl, w.before #[Value.ref b] s = true) ∧ va_X b L xs s s.heap ∧ b < s.heap.size ∧ meth.locks = false ∧ (Jvm.Cond.and given_1 narrow_1).before #[Value.ref b] s = true
theorem dL_law_1730 : decode cL_law 1730 = .ok (.iinc 3 6, 3) := by decide +kernel
theorem dL_law_1733 : decode cL_law 1733 = .ok (.goto (-1715), 3) := by decide +kernel
def mx {α : Type} (M : Nat) (x y : Nat → α) : Nat → α := fun k => bif Nat.testBit M k then x k else y k
def updG {α : Type} (f : Nat → α) (k : Nat) (v : α) : Nat → α := fun j => if j = k then v else f j
def swp {α : Type} (n k : Nat) (f : Nat → α) : Nat → α := fun i => bif Nat.ble n i && Nat.blt i (n + k) then f (i + k) else bif Nat.ble (n + k) i && Nat.blt i (n + 2 * k) then f (i - k) else f i
def updR {α : Type} (f : Nat → α) (lo n : Nat) (g : Nat → α) : Nat → α := fun k => bif Nat.ble lo k && Nat.blt k (lo + n) then g k else f k
def sets : va_W → List Nat → va_W → va_W
  | w, i :: is, c :: N => sets (w.set i c) is N
  | w, _, _ => w
theorem sets_get : ∀ (is : List Nat) (N : va_W) (w : va_W) (k : Nat) (q : Nat × va_E), is.length = N.length → (sets w is N)[k]? = some q → q ∈ N ∨ (k ∉ is ∧ w[k]? = some q)
  | [], [], w, k, q, _, h => Or.inr ⟨List.not_mem_nil, h⟩
  | [], _ :: _, _, _, _, hl, _ => by cases hl
  | _ :: _, [], _, _, _, hl, _ => by cases hl
  | i :: is, c :: N, w, k, q, hl, h => by
    have hl2 : is.length = N.length := Nat.succ.inj hl
    rcases sets_get is N (w.set i c) k q hl2 h with h1 | ⟨h1, h2⟩
    · exact Or.inl (List.mem_cons_of_mem _ h1)
    · by_cases e : i = k
      · subst e
        have hlt : i < (w.set i c).length := (List.getElem?_eq_some_iff.mp h2).1
        rw [List.length_set] at hlt
        rw [List.getElem?_set_self hlt] at h2
        exact Or.inl (by cases h2; exact List.mem_cons_self)
      · rw [List.getElem?_set_ne e] at h2
        refine Or.inr ⟨fun hm => ?_, h2⟩
        rcases List.mem_cons.mp hm with r | r
        · exact e r.symm
        · exact h1 r
theorem back_P {A : Nat → Prop} {D : va_G} {cl : List vw_C} {w N : va_W} {H H1 : Heap} {adr : List Nat} (is : List Nat) (hP : va_P D cl w H) (hD : va_D A w) (hN : va_P D cl N H1) (hl : is.length = N.length) (ha : is.map (fun i => (w[i]?).map Prod.fst) = adr.map some) (hF : ∀ q : Nat, q < H.size → q ∉ adr → H1[q]? = H[q]?) : va_P D cl (sets w is N) H1 := by
  intro k q hq
  rcases sets_get is N w k q hl hq with h | ⟨h1, h2⟩
  · obtain ⟨j, hj⟩ := List.mem_iff_getElem?.mp h
    exact hN j q hj
  · refine (hP k q h2).kept (hF _ (hP k q h2).lt (fun hm => ?_))
    have hm2 : some q.1 ∈ adr.map some := List.mem_map.mpr ⟨q.1, hm, rfl⟩
    rw [← ha] at hm2
    obtain ⟨i, hi, e⟩ := List.mem_map.mp hm2
    cases hw : w[i]? with
    | none =>
      rw [hw] at e
      cases e
    | some x =>
      rw [hw] at e
      have e2 : x.1 = q.1 := Option.some.inj e
      have := hD.1 i k x q hw h2 e2
      exact h1 (this ▸ hi)
theorem D_congr {A : Nat → Prop} {w w1 : va_W} (h : w1.map Prod.fst = w.map Prod.fst) (hD : va_D A w) : va_D A w1 := by
  have key : ∀ (k : Nat) (q : Nat × va_E), w1[k]? = some q → ∃ x, w[k]? = some x ∧ x.1 = q.1 := by
    intro k q hq
    have h1 : (w1.map Prod.fst)[k]? = some q.1 := by rw [List.getElem?_map, hq]; rfl
    rw [h, List.getElem?_map] at h1
    cases hw : w[k]? with
    | none =>
      rw [hw] at h1
      cases h1
    | some x =>
      rw [hw] at h1
      exact ⟨x, rfl, Option.some.inj h1⟩
  refine ⟨fun i j p q hi hj e => ?_, fun k q hk => ?_⟩
  · obtain ⟨x, hx, ex⟩ := key i p hi
    obtain ⟨y, hy, ey⟩ := key j q hj
    exact hD.1 i j x y hx hy (by rw [ex, ey]; exact e)
  · obtain ⟨x, hx, ex⟩ := key k q hk
    rw [← ex]
    exact hD.2 k x hx
def bsw (n k : Nat) (w : va_W) : va_W := w.take n ++ ((w.drop (n + k)).take k ++ ((w.drop n).take k ++ w.drop (n + 2 * k)))
theorem bsw_perm (n k : Nat) (w : va_W) : (bsw n k w).Perm w := by
  have e2 : w.drop (n + 2 * k) = (w.drop (n + k)).drop k := by
    rw [List.drop_drop]
    congr 1
    omega
  have e3 : (w.drop n).drop k = w.drop (n + k) := List.drop_drop
  have e1 : w.take n ++ ((w.drop n).take k ++ ((w.drop (n + k)).take k ++ w.drop (n + 2 * k))) = w := by
    rw [e2, List.take_append_drop, ← e3, List.take_append_drop, List.take_append_drop]
  have h : (bsw n k w).Perm (w.take n ++ ((w.drop n).take k ++ ((w.drop (n + k)).take k ++ w.drop (n + 2 * k)))) := by
    unfold bsw
    refine List.Perm.append_left _ ?_
    rw [← List.append_assoc, ← List.append_assoc]
    exact List.Perm.append_right _ List.perm_append_comm
  rw [e1] at h
  exact h
theorem D_nodup {A : Nat → Prop} {w : va_W} (hD : va_D A w) : (w.map Prod.fst).Nodup := by
  unfold List.Nodup
  rw [List.pairwise_iff_getElem]
  intro i j hi hj hij he
  rw [List.getElem_map, List.getElem_map] at he
  have hi2 : i < w.length := by rw [List.length_map] at hi; exact hi
  have hj2 : j < w.length := by rw [List.length_map] at hj; exact hj
  have := hD.1 i j _ _ (List.getElem?_eq_getElem hi2) (List.getElem?_eq_getElem hj2) he
  omega
theorem D_perm {A : Nat → Prop} {w w1 : va_W} (hp : w1.Perm w) (hD : va_D A w) : va_D A w1 := by
  have hn : (w1.map Prod.fst).Nodup := (hp.map Prod.fst).symm.nodup (D_nodup hD)
  refine ⟨fun i j p q hi hj e => ?_, fun k q hk => ?_⟩
  · have hli : i < (w1.map Prod.fst).length := by rw [List.length_map]; exact (List.getElem?_eq_some_iff.mp hi).1
    refine (List.getElem?_inj hli hn).mp ?_
    rw [List.getElem?_map, List.getElem?_map, hi, hj]
    show some p.1 = some q.1
    rw [e]
  · obtain ⟨k2, hk2⟩ := List.mem_iff_getElem?.mp (hp.mem_iff.mp (List.mem_of_getElem? hk))
    exact hD.2 k2 q hk2
theorem P_perm {D : va_G} {cl : List vw_C} {w w1 : va_W} {H : Heap} (hp : w1.Perm w) (hP : va_P D cl w H) : va_P D cl w1 H := fun k q hk => by
  obtain ⟨k2, hk2⟩ := List.mem_iff_getElem?.mp (hp.mem_iff.mp (List.mem_of_getElem? hk))
  exact hP k2 q hk2
theorem fr_step {H0 H H1 : Heap} {adr : List Nat} {wc : va_W} (hF : ∀ q : Nat, q < H0.size → q ∉ adr → H[q]? = H0[q]?) (hZ : H0.size ≤ H.size) (hz1 : H.size ≤ H1.size) (is : List Nat) (hin : is.map (fun i => adr[i]?) = wc.map (fun x => some x.1)) (hk1 : ∀ q : Nat, q < H.size → ¬ va_A wc H.size q → H1[q]? = H[q]?) : (∀ q : Nat, q < H0.size → q ∉ adr → H1[q]? = H0[q]?) ∧ H0.size ≤ H1.size := by
  refine ⟨fun q hq hn => ?_, Nat.le_trans hZ hz1⟩
  rw [hk1 q (Nat.lt_of_lt_of_le hq hZ) (fun h => ?_)]
  · exact hF q hq hn
  · rcases h with ⟨k, e, hk⟩ | h
    · have h1 : some q ∈ wc.map (fun x => some x.1) := List.mem_map.mpr ⟨(q, e), List.mem_of_getElem? hk, rfl⟩
      rw [← hin] at h1
      obtain ⟨i, -, hi⟩ := List.mem_map.mp h1
      exact hn (List.mem_of_getElem? hi)
    · omega
def pk1 : List Bool → va_W → va_W
  | true :: m, c :: w => c :: pk1 m w
  | false :: m, _ :: w => pk1 m w
  | _, _ => []
def pk0 : List Bool → va_W → va_W
  | true :: m, _ :: w => pk0 m w
  | false :: m, c :: w => c :: pk0 m w
  | [], w => w
  | _, [] => []
theorem pk1_sub : ∀ (m : List Bool) (w : va_W), (pk1 m w).Sublist w
  | true :: m, c :: w => (pk1_sub m w).cons_cons c
  | false :: m, c :: w => (pk1_sub m w).cons c
  | [], w => List.nil_sublist w
  | true :: _, [] => List.Sublist.refl _
  | false :: _, [] => List.Sublist.refl _
theorem pk0_sub : ∀ (m : List Bool) (w : va_W), (pk0 m w).Sublist w
  | true :: m, c :: w => (pk0_sub m w).cons c
  | false :: m, c :: w => (pk0_sub m w).cons_cons c
  | [], w => by
    cases w <;> exact List.Sublist.refl _
  | true :: _, [] => List.Sublist.refl _
  | false :: _, [] => List.Sublist.refl _
theorem pk_or {x : Nat × va_E} : ∀ (m : List Bool) (w : va_W), x ∈ w → x ∈ pk1 m w ∨ x ∈ pk0 m w
  | true :: m, c :: w, h => by
    rcases List.mem_cons.mp h with h | h
    · exact Or.inl (List.mem_cons.mpr (Or.inl h))
    · rcases pk_or m w h with h | h
      · exact Or.inl (List.mem_cons_of_mem _ h)
      · exact Or.inr h
  | false :: m, c :: w, h => by
    rcases List.mem_cons.mp h with h | h
    · exact Or.inr (List.mem_cons.mpr (Or.inl h))
    · rcases pk_or m w h with h | h
      · exact Or.inl h
      · exact Or.inr (List.mem_cons_of_mem _ h)
  | [], c :: w, h => Or.inr h
  | _, [], h => by cases h
theorem pk_dis {x y : Nat × va_E} : ∀ (m : List Bool) (w : va_W), (w.map Prod.fst).Nodup → x ∈ pk0 m w → y ∈ pk1 m w → x.1 ≠ y.1
  | true :: m, c :: w, hn, hx, hy => by
    have hn2 : c.1 ∉ w.map Prod.fst ∧ (w.map Prod.fst).Nodup := List.nodup_cons.mp hn
    rcases List.mem_cons.mp hy with h | h
    · intro e
      exact hn2.1 (by rw [← h, ← e]; exact List.mem_map_of_mem ((pk0_sub m w).subset hx))
    · exact pk_dis m w hn2.2 hx h
  | false :: m, c :: w, hn, hx, hy => by
    have hn2 : c.1 ∉ w.map Prod.fst ∧ (w.map Prod.fst).Nodup := List.nodup_cons.mp hn
    rcases List.mem_cons.mp hx with h | h
    · intro e
      exact hn2.1 (by rw [← h, e]; exact List.mem_map_of_mem ((pk1_sub m w).subset hy))
    · exact pk_dis m w hn2.2 h hy
  | [], w, _, _, hy => by
    cases w <;> cases hy
  | true :: _, [], _, _, hy => by cases hy
  | false :: _, [], _, _, hy => by cases hy
theorem P_mem {D : va_G} {cl : List vw_C} {w : va_W} {H : Heap} : va_P D cl w H ↔ ∀ q ∈ w, va_at D cl q H :=
  ⟨fun h q hq => by
    obtain ⟨k, hk⟩ := List.mem_iff_getElem?.mp hq
    exact h k q hk, fun h k q hk => h q (List.mem_of_getElem? hk)⟩
theorem P_pk {D : va_G} {cl : List vw_C} {w : va_W} {H : Heap} (m : List Bool) (h : va_P D cl w H) : va_P D cl (pk1 m w) H := P_mem.mpr fun q hq => P_mem.mp h q ((pk1_sub m w).subset hq)
theorem D_of {A : Nat → Prop} {w : va_W} (hn : (w.map Prod.fst).Nodup) (hA : ∀ q ∈ w, A q.1) : va_D A w := by
  refine ⟨fun i j p q hi hj e => ?_, fun k q hk => hA q (List.mem_of_getElem? hk)⟩
  have hli : i < (w.map Prod.fst).length := by rw [List.length_map]; exact (List.getElem?_eq_some_iff.mp hi).1
  refine (List.getElem?_inj hli hn).mp ?_
  rw [List.getElem?_map, List.getElem?_map, hi, hj]
  show some p.1 = some q.1
  rw [e]
theorem D_pk {A : Nat → Prop} {w : va_W} (m : List Bool) (h : va_D A w) : va_D A (pk1 m w) := by
  refine D_of (((pk1_sub m w).map Prod.fst).nodup (D_nodup h)) (fun q hq => ?_)
  obtain ⟨k, hk⟩ := List.mem_iff_getElem?.mp ((pk1_sub m w).subset hq)
  exact h.2 k q hk
theorem back_pk {A : Nat → Prop} {D : va_G} {cl : List vw_C} {w w1 N : va_W} {H H1 : Heap} {adr : List Nat} (m : List Bool) (hP : va_P D cl w H) (hD : va_D A w) (hN : va_P D cl N H1) (h1 : pk1 m w1 = N) (h0 : pk0 m w1 = pk0 m w) (ha : (pk1 m w).map Prod.fst = adr) (hF : ∀ q : Nat, q < H.size → q ∉ adr → H1[q]? = H[q]?) : va_P D cl w1 H1 := by
  refine P_mem.mpr fun q hq => ?_
  rcases pk_or m w1 hq with h | h
  · rw [h1] at h
    exact P_mem.mp hN q h
  · rw [h0] at h
    have hw : va_at D cl q H := P_mem.mp hP q ((pk0_sub m w).subset h)
    refine hw.kept (hF _ hw.lt (fun hm => ?_))
    rw [← ha] at hm
    obtain ⟨y, hy, e⟩ := List.mem_map.mp hm
    exact pk_dis m w (D_nodup hD) h hy e.symm
def LW (cI cZ cB cJ cM cG : ClassId) (a : Nat → Nat) (u : Nat → Int32) (F : Nat → Nat → Int32) (G : Nat → Nat → Int64) (j : Int64) : va_W := [(a 0, .inr (11, [.ref (a 1), .ref (a 2), .ref (a 3), .ref (a 4), .ref (a 5), .ref (a 6), .ref (a 7), .ref (a 8), .ref (a 9), .ref (a 10)])), (a 1, .inr (10, [.ref (a 11), .int (u 0), .int (u 1), .int (u 2), .int (u 3), .int (u 4), .int (u 5), .int (u 6)])), (a 11, .inl (cB, 1600, .inl (F 0))), (a 2, .inr (5, [.int (u 7), .ref (a 12), .ref (a 13), .ref (a 14), .ref (a 15), .int (u 8), .ref (a 16), .ref (a 17), .ref (a 18), .int (u 9), .int (u 10)])), (a 12, .inl (cI, 400, .inl (F 1))), (a 13, .inl (cI, 400, .inl (F 2))), (a 14, .inl (cI, 400, .inl (F 3))), (a 15, .inl (cI, 400, .inl (F 4))), (a 16, .inl (cI, 5, .inl (F 5))), (a 17, .inl (cI, 5, .inl (F 6))), (a 18, .inl (cI, 5, .inl (F 7))), (a 3, .inr (0, [.ref (a 19), .ref (a 20), .ref (a 21), .ref (a 22), .ref (a 23), .ref (a 24), .ref (a 25)])), (a 19, .inl (cI, 24, .inl (F 8))), (a 20, .inl (cI, 24, .inl (F 9))), (a 21, .inl (cI, 60, .inl (F 10))), (a 22, .inl (cI, 60, .inl (F 11))), (a 23, .inl (cI, 60, .inl (F 12))), (a 24, .inl (cI, 4, .inl (F 13))), (a 25, .inl (cG, 10, .inr (.inr (.inr (.inr (va_up (va_up (va_up (va_up (va_up (va_up (va_up (va_up (va_up (va_up (fun _ => none) 0 (some (a 26))) 1 (some (a 27))) 2 (some (a 28))) 3 (some (a 29))) 4 (some (a 30))) 5 (some (a 31))) 6 (some (a 32))) 7 (some (a 33))) 8 (some (a 34))) 9 (some (a 35)))))))), (a 26, .inl (cI, 60, .inl (F 14))), (a 27, .inl (cI, 60, .inl (F 15))), (a 28, .inl (cI, 60, .inl (F 16))), (a 29, .inl (cI, 60, .inl (F 17))), (a 30, .inl (cI, 60, .inl (F 18))), (a 31, .inl (cI, 60, .inl (F 19))), (a 32, .inl (cI, 60, .inl (F 20))), (a 33, .inl (cI, 60, .inl (F 21))), (a 34, .inl (cI, 60, .inl (F 22))), (a 35, .inl (cI, 60, .inl (F 23))), (a 4, .inr (9, [.int (u 11), .int (u 12), .int (u 13), .int (u 14), .int (u 15)])), (a 5, .inr (8, [.ref (a 36), .ref (a 37), .ref (a 38), .ref (a 39)])), (a 36, .inl (cI, 4, .inl (F 24))), (a 37, .inl (cI, 4, .inl (F 25))), (a 38, .inl (cZ, 4, .inl (F 26))), (a 39, .inl (cJ, 240, .inr (.inl (G 0)))), (a 6, .inr (6, [.int (u 16), .ref (a 40), .ref (a 41), .ref (a 42)])), (a 40, .inl (cI, 8, .inl (F 27))), (a 41, .inl (cI, 8, .inl (F 28))), (a 42, .inl (cI, 8, .inl (F 29))), (a 7, .inl (cM, 3, .inr (.inr (.inr (.inr (va_up (va_up (va_up (fun _ => none) 0 (some (a 43))) 1 (some (a 44))) 2 (some (a 45)))))))), (a 43, .inr (2, [.int (u 17), .int (u 18), .int (u 19), .int (u 20), .int (u 21), .int (u 22), .int (u 23), .int (u 24), .int (u 25), .ref (a 46), .ref (a 47), .ref (a 48), .ref (a 49), .ref (a 50)])), (a 46, .inr (3, [.int (u 26), .ref (a 51), .ref (a 52), .ref (a 53), .ref (a 54), .ref (a 55), .ref (a 56), .ref (a 57)])), (a 51, .inl (cI, 24, .inl (F 30))), (a 52, .inl (cI, 24, .inl (F 31))), (a 53, .inl (cI, 24, .inl (F 32))), (a 54, .inl (cI, 24, .inl (F 33))), (a 55, .inl (cI, 24, .inl (F 34))), (a 56, .inl (cI, 24, .inl (F 35))), (a 57, .inl (cZ, 24, .inl (F 36))), (a 47, .inr (1, [.int (u 27), .ref (a 58), .ref (a 59), .ref (a 60), .ref (a 61), .ref (a 62), .ref (a 63), .ref (a 64), .ref (a 65), .ref (a 66)])), (a 58, .inl (cI, 10, .inl (F 37))), (a 59, .inl (cI, 10, .inl (F 38))), (a 60, .inl (cI, 10, .inl (F 39))), (a 61, .inl (cI, 10, .inl (F 40))), (a 62, .inl (cI, 10, .inl (F 41))), (a 63, .inl (cI, 10, .inl (F 42))), (a 64, .inl (cI, 10, .inl (F 43))), (a 65, .inl (cI, 10, .inl (F 44))), (a 66, .inl (cI, 210, .inl (F 45))), (a 48, .inr (4, [.int (u 28), .ref (a 67), .ref (a 68), .ref (a 69), .ref (a 70)])), (a 67, .inl (cI, 4, .inl (F 46))), (a 68, .inl (cI, 4, .inl (F 47))), (a 69, .inl (cI, 4, .inl (F 48))), (a 70, .inl (cI, 4, .inl (F 49))), (a 49, .inr (7, [.int (u 29), .int (u 30), .int (u 31), .int (u 32), .int (u 33), .int (u 34), .int (u 35), .int (u 36)])), (a 50, .inl (cI, 60, .inl (F 50))), (a 44, .inr (2, [.int (u 37), .int (u 38), .int (u 39), .int (u 40), .int (u 41), .int (u 42), .int (u 43), .int (u 44), .int (u 45), .ref (a 71), .ref (a 72), .ref (a 73), .ref (a 74), .ref (a 75)])), (a 71, .inr (3, [.int (u 46), .ref (a 76), .ref (a 77), .ref (a 78), .ref (a 79), .ref (a 80), .ref (a 81), .ref (a 82)])), (a 76, .inl (cI, 24, .inl (F 51))), (a 77, .inl (cI, 24, .inl (F 52))), (a 78, .inl (cI, 24, .inl (F 53))), (a 79, .inl (cI, 24, .inl (F 54))), (a 80, .inl (cI, 24, .inl (F 55))), (a 81, .inl (cI, 24, .inl (F 56))), (a 82, .inl (cZ, 24, .inl (F 57))), (a 72, .inr (1, [.int (u 47), .ref (a 83), .ref (a 84), .ref (a 85), .ref (a 86), .ref (a 87), .ref (a 88), .ref (a 89), .ref (a 90), .ref (a 91)])), (a 83, .inl (cI, 10, .inl (F 58))), (a 84, .inl (cI, 10, .inl (F 59))), (a 85, .inl (cI, 10, .inl (F 60))), (a 86, .inl (cI, 10, .inl (F 61))), (a 87, .inl (cI, 10, .inl (F 62))), (a 88, .inl (cI, 10, .inl (F 63))), (a 89, .inl (cI, 10, .inl (F 64))), (a 90, .inl (cI, 10, .inl (F 65))), (a 91, .inl (cI, 210, .inl (F 66))), (a 73, .inr (4, [.int (u 48), .ref (a 92), .ref (a 93), .ref (a 94), .ref (a 95)])), (a 92, .inl (cI, 4, .inl (F 67))), (a 93, .inl (cI, 4, .inl (F 68))), (a 94, .inl (cI, 4, .inl (F 69))), (a 95, .inl (cI, 4, .inl (F 70))), (a 74, .inr (7, [.int (u 49), .int (u 50), .int (u 51), .int (u 52), .int (u 53), .int (u 54), .int (u 55), .int (u 56)])), (a 75, .inl (cI, 60, .inl (F 71))), (a 45, .inr (2, [.int (u 57), .int (u 58), .int (u 59), .int (u 60), .int (u 61), .int (u 62), .int (u 63), .int (u 64), .int (u 65), .ref (a 96), .ref (a 97), .ref (a 98), .ref (a 99), .ref (a 100)])), (a 96, .inr (3, [.int (u 66), .ref (a 101), .ref (a 102), .ref (a 103), .ref (a 104), .ref (a 105), .ref (a 106), .ref (a 107)])), (a 101, .inl (cI, 24, .inl (F 72))), (a 102, .inl (cI, 24, .inl (F 73))), (a 103, .inl (cI, 24, .inl (F 74))), (a 104, .inl (cI, 24, .inl (F 75))), (a 105, .inl (cI, 24, .inl (F 76))), (a 106, .inl (cI, 24, .inl (F 77))), (a 107, .inl (cZ, 24, .inl (F 78))), (a 97, .inr (1, [.int (u 67), .ref (a 108), .ref (a 109), .ref (a 110), .ref (a 111), .ref (a 112), .ref (a 113), .ref (a 114), .ref (a 115), .ref (a 116)])), (a 108, .inl (cI, 10, .inl (F 79))), (a 109, .inl (cI, 10, .inl (F 80))), (a 110, .inl (cI, 10, .inl (F 81))), (a 111, .inl (cI, 10, .inl (F 82))), (a 112, .inl (cI, 10, .inl (F 83))), (a 113, .inl (cI, 10, .inl (F 84))), (a 114, .inl (cI, 10, .inl (F 85))), (a 115, .inl (cI, 10, .inl (F 86))), (a 116, .inl (cI, 210, .inl (F 87))), (a 98, .inr (4, [.int (u 68), .ref (a 117), .ref (a 118), .ref (a 119), .ref (a 120)])), (a 117, .inl (cI, 4, .inl (F 88))), (a 118, .inl (cI, 4, .inl (F 89))), (a 119, .inl (cI, 4, .inl (F 90))), (a 120, .inl (cI, 4, .inl (F 91))), (a 99, .inr (7, [.int (u 69), .int (u 70), .int (u 71), .int (u 72), .int (u 73), .int (u 74), .int (u 75), .int (u 76)])), (a 100, .inl (cI, 60, .inl (F 92))), (a 8, .inl (cZ, 3, .inl (F 93))), (a 9, .inr (2, [.int (u 77), .int (u 78), .int (u 79), .int (u 80), .int (u 81), .int (u 82), .int (u 83), .int (u 84), .int (u 85), .ref (a 121), .ref (a 122), .ref (a 123), .ref (a 124), .ref (a 125)])), (a 121, .inr (3, [.int (u 86), .ref (a 126), .ref (a 127), .ref (a 128), .ref (a 129), .ref (a 130), .ref (a 131), .ref (a 132)])), (a 126, .inl (cI, 24, .inl (F 94))), (a 127, .inl (cI, 24, .inl (F 95))), (a 128, .inl (cI, 24, .inl (F 96))), (a 129, .inl (cI, 24, .inl (F 97))), (a 130, .inl (cI, 24, .inl (F 98))), (a 131, .inl (cI, 24, .inl (F 99))), (a 132, .inl (cZ, 24, .inl (F 100))), (a 122, .inr (1, [.int (u 87), .ref (a 133), .ref (a 134), .ref (a 135), .ref (a 136), .ref (a 137), .ref (a 138), .ref (a 139), .ref (a 140), .ref (a 141)])), (a 133, .inl (cI, 10, .inl (F 101))), (a 134, .inl (cI, 10, .inl (F 102))), (a 135, .inl (cI, 10, .inl (F 103))), (a 136, .inl (cI, 10, .inl (F 104))), (a 137, .inl (cI, 10, .inl (F 105))), (a 138, .inl (cI, 10, .inl (F 106))), (a 139, .inl (cI, 10, .inl (F 107))), (a 140, .inl (cI, 10, .inl (F 108))), (a 141, .inl (cI, 210, .inl (F 109))), (a 123, .inr (4, [.int (u 88), .ref (a 142), .ref (a 143), .ref (a 144), .ref (a 145)])), (a 142, .inl (cI, 4, .inl (F 110))), (a 143, .inl (cI, 4, .inl (F 111))), (a 144, .inl (cI, 4, .inl (F 112))), (a 145, .inl (cI, 4, .inl (F 113))), (a 124, .inr (7, [.int (u 89), .int (u 90), .int (u 91), .int (u 92), .int (u 93), .int (u 94), .int (u 95), .int (u 96)])), (a 125, .inl (cI, 60, .inl (F 114))), (a 10, .inr (2, [.int (u 97), .int (u 98), .int (u 99), .int (u 100), .int (u 101), .int (u 102), .int (u 103), .int (u 104), .int (u 105), .ref (a 146), .ref (a 147), .ref (a 148), .ref (a 149), .ref (a 150)])), (a 146, .inr (3, [.int (u 106), .ref (a 151), .ref (a 152), .ref (a 153), .ref (a 154), .ref (a 155), .ref (a 156), .ref (a 157)])), (a 151, .inl (cI, 24, .inl (F 115))), (a 152, .inl (cI, 24, .inl (F 116))), (a 153, .inl (cI, 24, .inl (F 117))), (a 154, .inl (cI, 24, .inl (F 118))), (a 155, .inl (cI, 24, .inl (F 119))), (a 156, .inl (cI, 24, .inl (F 120))), (a 157, .inl (cZ, 24, .inl (F 121))), (a 147, .inr (1, [.int (u 107), .ref (a 158), .ref (a 159), .ref (a 160), .ref (a 161), .ref (a 162), .ref (a 163), .ref (a 164), .ref (a 165), .ref (a 166)])), (a 158, .inl (cI, 10, .inl (F 122))), (a 159, .inl (cI, 10, .inl (F 123))), (a 160, .inl (cI, 10, .inl (F 124))), (a 161, .inl (cI, 10, .inl (F 125))), (a 162, .inl (cI, 10, .inl (F 126))), (a 163, .inl (cI, 10, .inl (F 127))), (a 164, .inl (cI, 10, .inl (F 128))), (a 165, .inl (cI, 10, .inl (F 129))), (a 166, .inl (cI, 210, .inl (F 130))), (a 148, .inr (4, [.int (u 108), .ref (a 167), .ref (a 168), .ref (a 169), .ref (a 170)])), (a 167, .inl (cI, 4, .inl (F 131))), (a 168, .inl (cI, 4, .inl (F 132))), (a 169, .inl (cI, 4, .inl (F 133))), (a 170, .inl (cI, 4, .inl (F 134))), (a 149, .inr (7, [.int (u 109), .int (u 110), .int (u 111), .int (u 112), .int (u 113), .int (u 114), .int (u 115), .int (u 116)])), (a 150, .inl (cI, 60, .inl (F 135))), (a 171, .inr (12, [.int (u 117), .ref (a 172), .ref (a 173), .ref (a 174), .ref (a 175), .int (u 118), .ref (a 176), .int (u 119), .int (u 120), .int (u 121), .int (u 122), .int (u 123), .int (u 124), .int (u 125), .ref (a 177), .ref (a 178), .ref (a 179), .ref (a 180), .ref (a 181), .ref (a 182), .ref (a 183), .int (u 126), .ref (a 184), .int (u 127), .ref (a 185), .ref (a 186), .int (u 128), .ref (a 187), .ref (a 188), .ref (a 189), .ref (a 190), .int (u 129), .int (u 130), .int (u 131), .int (u 132), .int (u 133), .ref (a 191), .long j, .ref (a 192), .ref (a 193), .ref (a 194), .ref (a 195)])), (a 172, .inl (cI, 544, .inl (F 136))), (a 173, .inl (cI, 1632, .inl (F 137))), (a 174, .inl (cZ, 3, .inl (F 138))), (a 175, .inl (cB, 1600, .inl (F 139))), (a 176, .inl (cI, 5, .inl (F 140))), (a 177, .inl (cI, 544, .inl (F 141))), (a 178, .inl (cI, 360, .inl (F 142))), (a 179, .inl (cI, 600, .inl (F 143))), (a 180, .inl (cI, 60, .inl (F 144))), (a 181, .inl (cI, 10, .inl (F 145))), (a 182, .inl (cI, 600, .inl (F 146))), (a 183, .inl (cI, 2000, .inl (F 147))), (a 184, .inl (cI, 6, .inl (F 148))), (a 185, .inl (cI, 6, .inl (F 149))), (a 186, .inl (cI, 6, .inl (F 150))), (a 187, .inl (cI, 256, .inl (F 151))), (a 188, .inl (cI, 256, .inl (F 152))), (a 189, .inl (cI, 8, .inl (F 153))), (a 190, .inl (cI, 8, .inl (F 154))), (a 191, .inl (cI, 168, .inl (F 155))), (a 192, .inl (cI, 4, .inl (F 156))), (a 193, .inl (cI, 4, .inl (F 157))), (a 194, .inl (cJ, 240, .inr (.inl (G 1)))), (a 195, .inl (cJ, 60, .inr (.inl (G 2))))]
def LA (a : Nat → Nat) : List Nat := [a 0, a 1, a 11, a 2, a 12, a 13, a 14, a 15, a 16, a 17, a 18, a 3, a 19, a 20, a 21, a 22, a 23, a 24, a 25, a 26, a 27, a 28, a 29, a 30, a 31, a 32, a 33, a 34, a 35, a 4, a 5, a 36, a 37, a 38, a 39, a 6, a 40, a 41, a 42, a 7, a 43, a 46, a 51, a 52, a 53, a 54, a 55, a 56, a 57, a 47, a 58, a 59, a 60, a 61, a 62, a 63, a 64, a 65, a 66, a 48, a 67, a 68, a 69, a 70, a 49, a 50, a 44, a 71, a 76, a 77, a 78, a 79, a 80, a 81, a 82, a 72, a 83, a 84, a 85, a 86, a 87, a 88, a 89, a 90, a 91, a 73, a 92, a 93, a 94, a 95, a 74, a 75, a 45, a 96, a 101, a 102, a 103, a 104, a 105, a 106, a 107, a 97, a 108, a 109, a 110, a 111, a 112, a 113, a 114, a 115, a 116, a 98, a 117, a 118, a 119, a 120, a 99, a 100, a 8, a 9, a 121, a 126, a 127, a 128, a 129, a 130, a 131, a 132, a 122, a 133, a 134, a 135, a 136, a 137, a 138, a 139, a 140, a 141, a 123, a 142, a 143, a 144, a 145, a 124, a 125, a 10, a 146, a 151, a 152, a 153, a 154, a 155, a 156, a 157, a 147, a 158, a 159, a 160, a 161, a 162, a 163, a 164, a 165, a 166, a 148, a 167, a 168, a 169, a 170, a 149, a 150, a 171, a 172, a 173, a 174, a 175, a 176, a 177, a 178, a 179, a 180, a 181, a 182, a 183, a 184, a 185, a 186, a 187, a 188, a 189, a 190, a 191, a 192, a 193, a 194, a 195]
set_option maxRecDepth 100000 in
theorem LW_fst (cI cZ cB cJ cM cG : ClassId) (a : Nat → Nat) (u : Nat → Int32) (F : Nat → Nat → Int32) (G : Nat → Nat → Int64) (j : Int64) : (LW cI cZ cB cJ cM cG a u F G j).map Prod.fst = LA a := rfl
def LPr (u : Nat → Int32) (F : Nat → Nat → Int32) (w3 : Int32) : Prop := ((0 : Int) ≤ (u 0).toInt ∧ (u 0).toInt ≤ 1600) ∧ ((0 : Int) ≤ (u 4).toInt ∧ (u 4).toInt ≤ 1600) ∧ ((0 : Int) ≤ (u 5).toInt ∧ (u 5).toInt ≤ 1600) ∧ ((0 : Int) ≤ (u 7).toInt ∧ (u 7).toInt ≤ 400) ∧ ((0 : Int) ≤ (u 8).toInt ∧ (u 8).toInt ≤ 5) ∧ ((0 : Int) ≤ (u 9).toInt ∧ (u 9).toInt ≤ 59) ∧ (rng (F 2) 400 0 1000) ∧ (rng (F 4) 400 (-1) 400) ∧ (rng (F 5) 5 0 400) ∧ ((0 : Int) ≤ (u 15).toInt ∧ (u 15).toInt ≤ 1) ∧ (rng (F 25) 4 0 60) ∧ (rng (F 26) 4 0 1) ∧ ((0 : Int) ≤ (u 16).toInt ∧ (u 16).toInt ≤ 8) ∧ ((0 : Int) ≤ (u 17).toInt ∧ (u 17).toInt ≤ 60) ∧ ((0 : Int) ≤ (u 20).toInt ∧ (u 20).toInt ≤ 6) ∧ ((0 : Int) ≤ (u 22).toInt ∧ (u 22).toInt ≤ 1) ∧ ((0 : Int) ≤ (u 25).toInt ∧ (u 25).toInt ≤ 1) ∧ ((0 : Int) ≤ (u 26).toInt ∧ (u 26).toInt ≤ 24) ∧ (rng (F 33) 24 0 60) ∧ (rng (F 36) 24 0 1) ∧ ((0 : Int) ≤ (u 27).toInt ∧ (u 27).toInt ≤ 10) ∧ (rng (F 39) 10 0 9) ∧ ((0 : Int) ≤ (u 28).toInt ∧ (u 28).toInt ≤ 4) ∧ ((0 : Int) ≤ (u 37).toInt ∧ (u 37).toInt ≤ 60) ∧ ((0 : Int) ≤ (u 40).toInt ∧ (u 40).toInt ≤ 6) ∧ ((0 : Int) ≤ (u 42).toInt ∧ (u 42).toInt ≤ 1) ∧ ((0 : Int) ≤ (u 45).toInt ∧ (u 45).toInt ≤ 1) ∧ ((0 : Int) ≤ (u 46).toInt ∧ (u 46).toInt ≤ 24) ∧ (rng (F 54) 24 0 60) ∧ (rng (F 57) 24 0 1) ∧ ((0 : Int) ≤ (u 47).toInt ∧ (u 47).toInt ≤ 10) ∧ (rng (F 60) 10 0 9) ∧ ((0 : Int) ≤ (u 48).toInt ∧ (u 48).toInt ≤ 4) ∧ ((0 : Int) ≤ (u 57).toInt ∧ (u 57).toInt ≤ 60) ∧ ((0 : Int) ≤ (u 60).toInt ∧ (u 60).toInt ≤ 6) ∧ ((0 : Int) ≤ (u 62).toInt ∧ (u 62).toInt ≤ 1) ∧ ((0 : Int) ≤ (u 65).toInt ∧ (u 65).toInt ≤ 1) ∧ ((0 : Int) ≤ (u 66).toInt ∧ (u 66).toInt ≤ 24) ∧ (rng (F 75) 24 0 60) ∧ (rng (F 78) 24 0 1) ∧ ((0 : Int) ≤ (u 67).toInt ∧ (u 67).toInt ≤ 10) ∧ (rng (F 81) 10 0 9) ∧ ((0 : Int) ≤ (u 68).toInt ∧ (u 68).toInt ≤ 4) ∧ (rng (F 93) 3 0 1) ∧ ((0 : Int) ≤ (u 77).toInt ∧ (u 77).toInt ≤ 60) ∧ ((0 : Int) ≤ (u 80).toInt ∧ (u 80).toInt ≤ 6) ∧ ((0 : Int) ≤ (u 82).toInt ∧ (u 82).toInt ≤ 1) ∧ ((0 : Int) ≤ (u 85).toInt ∧ (u 85).toInt ≤ 1) ∧ ((0 : Int) ≤ (u 86).toInt ∧ (u 86).toInt ≤ 24) ∧ (rng (F 97) 24 0 60) ∧ (rng (F 100) 24 0 1) ∧ ((0 : Int) ≤ (u 87).toInt ∧ (u 87).toInt ≤ 10) ∧ (rng (F 103) 10 0 9) ∧ ((0 : Int) ≤ (u 88).toInt ∧ (u 88).toInt ≤ 4) ∧ ((0 : Int) ≤ (u 97).toInt ∧ (u 97).toInt ≤ 60) ∧ ((0 : Int) ≤ (u 100).toInt ∧ (u 100).toInt ≤ 6) ∧ ((0 : Int) ≤ (u 102).toInt ∧ (u 102).toInt ≤ 1) ∧ ((0 : Int) ≤ (u 105).toInt ∧ (u 105).toInt ≤ 1) ∧ ((0 : Int) ≤ (u 106).toInt ∧ (u 106).toInt ≤ 24) ∧ (rng (F 118) 24 0 60) ∧ (rng (F 121) 24 0 1) ∧ ((0 : Int) ≤ (u 107).toInt ∧ (u 107).toInt ≤ 10) ∧ (rng (F 124) 10 0 9) ∧ ((0 : Int) ≤ (u 108).toInt ∧ (u 108).toInt ≤ 4) ∧ ((0 : Int) ≤ (u 118).toInt ∧ (u 118).toInt ≤ 1600) ∧ ((0 : Int) ≤ (u 119).toInt ∧ (u 119).toInt ≤ 1600) ∧ ((0 : Int) ≤ (u 120).toInt ∧ (u 120).toInt ≤ 1600) ∧ ((0 : Int) ≤ (u 121).toInt ∧ (u 121).toInt ≤ 1600) ∧ ((0 : Int) ≤ (u 122).toInt ∧ (u 122).toInt ≤ 6) ∧ ((0 : Int) ≤ (u 124).toInt ∧ (u 124).toInt ≤ 3) ∧ ((0 : Int) ≤ (u 128).toInt ∧ (u 128).toInt ≤ 59) ∧ (WI (101 * w3.toInt) (F 136)) ∧ (rng (F 138) 3 0 1) ∧ (rng (F 153) 8 0 255) ∧ (rng (F 156) 4 (-1) 60) ∧ (rng (F 157) 4 0 3) ∧ (IMG (101 * w3.toInt) (F 137) (F 138)) ∧ (REL4 (F 26) (F 25) (F 24) (F 156) (F 157))
def LInv (p : Program) (l : Launch) (e : Env) (s : State) (m : MethodId) (below : List Frame) (meth : Method) (c : Code) (b L : Nat) (xs : Nat → Int32) (dC : Nat → ClassId) (dI : Nat → Nat → Nat) (cI cZ cB cJ cM cG : ClassId) (d : Nat) : Prop := ∀ (H : Heap) (locs : List Loc) (ls : Array Slot) (w3 : Int32) (a : Nat → Nat) (u : Nat → Int32) (F : Nat → Nat → Int32) (G : Nat → Nat → Int64) (j : Int64), va_P (dC, dI) vwCl (LW cI cZ cB cJ cM cG a u F G j) H → va_D (fun q : Nat => s.heap.size ≤ q) (LW cI cZ cB cJ cM cG a u F G j) → va_S (fun q : Nat => s.heap.size ≤ q) s.heap H locs → lv_has ls 4 [(0, .ref b), (1, .ref (a 0)), (2, .ref (a 171)), (3, .int w3)] → 0 ≤ w3.toInt → w3.toInt ≤ 390 → LPr u F w3 → (400 - w3.toInt).toNat < d → W p l e room_1 s m #[Value.ref b] below meth c H locs 600000 7302250 (lw_Z below #[Value.ref b] s) (F0 m 18 ls [])
def CW_d (cI cZ cB cJ cM cG : ClassId) (a : Nat → Nat) (u : Nat → Int32) (F : Nat → Nat → Int32) (G : Nat → Nat → Int64) (j : Int64) : va_W := []
def CA_d (a : Nat → Nat) : List Nat := []
set_option maxHeartbeats 16000000 in
set_option maxRecDepth 100000 in
theorem lcase_d {p : Program} {l : Launch} {e : Env} {s : State} {m : MethodId} {below : List Frame} {meth : Method} {c : Code} {b L : Nat} {xs : Nat → Int32} {dC : Nat → ClassId} {dI : Nat → Nat → Nat} {cI cZ cB cJ cM cG : ClassId} (a : Nat → Nat) (u : Nat → Int32) (F : Nat → Nat → Int32) (G : Nat → Nat → Int64) (j : Int64) {H0 H : Heap} {locs : List Loc} {ls : Array Slot} {w3 : Int32} (C0 : lw_At p s m meth c b L xs) (hL : L ≤ 384) (hN : NT (fun q : Nat => s.heap.size ≤ q) s) (hK : va_K (dC, dI) vwCl [(cI, .int), (cZ, .boolean), (cB, .byte), (cJ, .long), (cM, .object RX2), (cG, .array .int)] s) (hP : va_P (dC, dI) vwCl (CW_d cI cZ cB cJ cM cG a u F G j) H) (hD : va_D (fun q : Nat => s.heap.size ≤ q) (CW_d cI cZ cB cJ cM cG a u F G j)) (hF : (∀ q : Nat, q < H0.size → q ∉ (CA_d a) → H[q]? = H0[q]?)) (hZ : H0.size ≤ H.size) (hS : va_S (fun q : Nat => s.heap.size ≤ q) s.heap H locs) (hl : lv_has ls 4 [(0, .ref b), (1, .ref (a 0)), (2, .ref (a 171)), (3, .int w3)]) (hi0 : 0 ≤ w3.toInt) (hi6 : w3.toInt + 6 ≤ (L : Int))  (hk : ∀ (H : Heap) (locs : List Loc) (ls : Array Slot) (x9 : Int32) (u9 : Nat → Int32) (F9 : Nat → Nat → Int32) (G9 : Nat → Nat → Int64) (j9 : Int64), va_P (dC, dI) vwCl (CW_d cI cZ cB cJ cM cG a u9 F9 G9 j9) H → va_D (fun q : Nat => s.heap.size ≤ q) (CW_d cI cZ cB cJ cM cG a u9 F9 G9 j9) → (∀ q : Nat, q < H0.size → q ∉ (CA_d a) → H[q]? = H0[q]?) → H0.size ≤ H.size → va_S (fun q : Nat => s.heap.size ≤ q) s.heap H locs → lv_has ls 4 [(0, .ref b), (1, .ref (a 0)), (2, .ref (a 171)), (3, .int x9)] → x9.toInt = w3.toInt + (6 : Int32).toInt → W p l e room_1 s m #[Value.ref b] below meth c H locs 600000 7302250 (lw_Z below #[Value.ref b] s) (F0 m 18 ls [])) : W p l e room_1 s m #[Value.ref b] below meth c H locs 600000 7302250 (lw_Z below #[Value.ref b] s) (F0 m 1730 ls []) := by
  replace hP : va_P (dC, dI) vwCl [] H := hP
  replace hD : va_D (fun q : Nat => s.heap.size ≤ q) [] := hD
  replace hF : ∀ q : Nat, q < H0.size → q ∉ ([] : List Nat) → H[q]? = H0[q]? := hF
  obtain ⟨hx, hb, hr, hml, hown0, hts, hX, hbl, hlocks, hgv⟩ := id C0
  have hb : c.code = cL_law := hb
  have hown : s.vm.findClass RL = some m.cls := hown0
  have hwd : ∀ wd ∈ wsL_law, wd.before #[Value.ref b] s = true := fun w h => hts w (wsL_law_in w h)
  have hA : ∀ q : Nat, s.heap.size ≤ q → (fun q : Nat => s.heap.size ≤ q) q := fun _ h => h
  have hbA : ¬ (fun q : Nat => s.heap.size ≤ q) b := Nat.not_le.mpr hbl
  clear hgv hts
  have k6 : (6 : Int32).toInt = 6 := by decide
  obtain ⟨x9, ex9⟩ : ∃ y : Int32, y = w3 + 6 := ⟨_, rfl⟩
  refine lv_iinc (v := x9) (lv' := [(3, .int x9), (0, .ref b), (1, .ref (a 0)), (2, .ref (a 171))]) hx hb dL_law_1730 hl (k := 3) rfl (by rw [ex9]; rfl) (by decide) rfl (fun ls hl => ?_)
  have tx9 := ia_add (a := w3) (b := (6 : Int32)) (by omega) (by omega)
  rw [← ex9] at tx9
  refine lv_goto (tgt := 18) hx hb dL_law_1733 (by decide) ?_
  have hP9 := hP.sub (ws' := []) [] rfl
  have hD9 := hD.sub (ws' := []) [] (by decide +kernel) rfl
  exact hk _ _ ls x9 u F G j hP9 hD9 hF hZ hS (lv_sub hl [1, 2, 3, 0] rfl) tx9 
def M_d : List Bool := []
set_option maxHeartbeats 16000000 in
set_option maxRecDepth 100000 in
theorem ldisp_d {p : Program} {l : Launch} {e : Env} {s : State} {m : MethodId} {below : List Frame} {meth : Method} {c : Code} {b L : Nat} {xs : Nat → Int32} {dC : Nat → ClassId} {dI : Nat → Nat → Nat} {cI cZ cB cJ cM cG : ClassId} {a : Nat → Nat} {u : Nat → Int32} {F : Nat → Nat → Int32} {G : Nat → Nat → Int64} {j : Int64} {H : Heap} {locs : List Loc} {ls : Array Slot} {w3 : Int32} {d : Nat} (C0 : lw_At p s m meth c b L xs) (hL : L ≤ 384) (hN : NT (fun q : Nat => s.heap.size ≤ q) s) (hK : va_K (dC, dI) vwCl [(cI, .int), (cZ, .boolean), (cB, .byte), (cJ, .long), (cM, .object RX2), (cG, .array .int)] s) (hk : LInv p l e s m below meth c b L xs dC dI cI cZ cB cJ cM cG d) (hP : va_P (dC, dI) vwCl (LW cI cZ cB cJ cM cG a u F G j) H) (hD : va_D (fun q : Nat => s.heap.size ≤ q) (LW cI cZ cB cJ cM cG a u F G j)) (hS : va_S (fun q : Nat => s.heap.size ≤ q) s.heap H locs) (hl : lv_has ls 4 [(0, .ref b), (1, .ref (a 0)), (2, .ref (a 171)), (3, .int w3)]) (hi0 : 0 ≤ w3.toInt) (hi6 : w3.toInt + 6 ≤ (L : Int)) (hp : LPr u F w3) (hm : (400 - w3.toInt).toNat < d + 1) : W p l e room_1 s m #[Value.ref b] below meth c H locs 600000 7302250 (lw_Z below #[Value.ref b] s) (F0 m 1730 ls []) := by
  unfold LPr at hp
  obtain ⟨p_0, p_1, p_2, p_3, p_4, p_5, p_6, p_7, p_8, p_9, p_10, p_11, p_12, p_13, p_14, p_15, p_16, p_17, p_18, p_19, p_20, p_21, p_22, p_23, p_24, p_25, p_26, p_27, p_28, p_29, p_30, p_31, p_32, p_33, p_34, p_35, p_36, p_37, p_38, p_39, p_40, p_41, p_42, p_43, p_44, p_45, p_46, p_47, p_48, p_49, p_50, p_51, p_52, p_53, p_54, p_55, p_56, p_57, p_58, p_59, p_60, p_61, p_62, p_63, p_64, p_65, p_66, p_67, p_68, p_69, p_70, p_71, p_72, p_73, p_74, p_75, p_76, p_77⟩ := hp
  have k6 : (6 : Int32).toInt = 6 := by decide
  have hPN : va_P (dC, dI) vwCl (CW_d cI cZ cB cJ cM cG a u F G j) H := P_pk M_d hP
  have hDN : va_D (fun q : Nat => s.heap.size ≤ q) (CW_d cI cZ cB cJ cM cG a u F G j) := D_pk M_d hD
  refine lcase_d a u F G j C0 hL hN hK hPN hDN (fun _ _ _ => rfl) (Nat.le_refl _) hS hl hi0 hi6  (fun H9 locs9 ls9 x9 u9 F9 G9 j9 hP9 hD9 hF9 hZ9 hS9 hl9 e9  => ?_)
  have hP7 : va_P (dC, dI) vwCl (LW cI cZ cB cJ cM cG a (mx 0 u9 u) (mx 0 F9 F) (mx 0 G9 G) j) H9 := back_pk M_d hP hD hP9 rfl rfl rfl hF9
  have hD7 : va_D (fun q : Nat => s.heap.size ≤ q) (LW cI cZ cB cJ cM cG a (mx 0 u9 u) (mx 0 F9 F) (mx 0 G9 G) j) := D_congr (by rw [LW_fst, LW_fst]) hD
  exact hk H9 locs9 ls9 x9 a (mx 0 u9 u) (mx 0 F9 F) (mx 0 G9 G) j hP7 hD7 hS9 hl9 (by omega) (by omega) ⟨p_0, p_1, p_2, p_3, p_4, p_5, p_6, p_7, p_8, p_9, p_10, p_11, p_12, p_13, p_14, p_15, p_16, p_17, p_18, p_19, p_20, p_21, p_22, p_23, p_24, p_25, p_26, p_27, p_28, p_29, p_30, p_31, p_32, p_33, p_34, p_35, p_36, p_37, p_38, p_39, p_40, p_41, p_42, p_43, p_44, p_45, p_46, p_47, p_48, p_49, p_50, p_51, p_52, p_53, p_54, p_55, p_56, p_57, p_58, p_59, p_60, p_61, p_62, p_63, p_64, p_65, p_66, p_67, p_68, p_69, p_70, WI_mono p_71 (by omega), p_72, p_73, p_74, p_75, IMG_mono p_76 (by omega), p_77⟩ (by omega)
