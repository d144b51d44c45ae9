theorem sub_of (ws : List Cond) (ps : List Nat) (hp : ws = ps.filterMap (fun i => lw_tbl[i]?)) : ∀ w ∈ ws, w ∈ lw_tbl := by
  intro w hw
  rw [hp] at hw
  obtain ⟨i, -, hi⟩ := List.mem_filterMap.mp hw
  exact List.mem_of_getElem? hi
def pkW : List Nat → List Cond → List Cond
  | 0 :: gs, c :: t => c :: pkW gs t
  | (g + 1) :: gs, _ :: t => pkW (g :: gs) t
  | _, _ => []
theorem pkW_mem {w : Cond} : ∀ (t : List Cond) (gs : List Nat), w ∈ pkW gs t → w ∈ t
  | [], gs, h => by
    rcases gs with _ | ⟨_ | _, _⟩ <;> cases h
  | c :: t, [], h => by cases h
  | c :: t, 0 :: gs, h => by
    rcases List.mem_cons.mp h with h | h
    · exact List.mem_cons.mpr (Or.inl h)
    · exact List.mem_cons_of_mem _ (pkW_mem t gs h)
  | c :: t, (g + 1) :: gs, h => List.mem_cons_of_mem _ (pkW_mem t (g :: gs) h)
theorem sub_pk (ws : List Cond) (gs : List Nat) (h : ws = pkW gs lw_tbl) : ∀ w ∈ ws, w ∈ lw_tbl := fun w hw => pkW_mem lw_tbl gs (h ▸ hw)
set_option maxHeartbeats 4000000 in
set_option maxRecDepth 100000 in
theorem it_r1 : ∀ w ∈ wsL_law_r1, w ∈ lw_tbl := sub_pk _ [0, 0, 0, 0, 0, 0, 0, 0, 0, 0, 0, 0, 0, 0, 0, 0, 0, 0, 0, 0, 0, 0, 0, 0] rfl
set_option maxRecDepth 20000 in
theorem ig_r1 : ∀ w ∈ wsL_law_r1, goodWord w = true := by decide +kernel
set_option maxHeartbeats 4000000 in
set_option maxRecDepth 100000 in
theorem it_r2 : ∀ w ∈ wsL_law_r2, w ∈ lw_tbl := sub_pk _ [24, 0, 0, 0, 0, 0, 0, 0, 0, 0, 0, 0, 0, 0, 0, 0, 0, 0, 0, 0, 0, 0, 0, 0] rfl
set_option maxRecDepth 20000 in
theorem ig_r2 : ∀ w ∈ wsL_law_r2, goodWord w = true := by decide +kernel
set_option maxHeartbeats 4000000 in
set_option maxRecDepth 100000 in
theorem it_r3 : ∀ w ∈ wsL_law_r3, w ∈ lw_tbl := sub_pk _ [48, 0, 0, 0, 0, 0, 0, 0, 0, 0, 0, 0, 0, 0, 0, 0, 0, 0, 0, 0, 0, 0, 0, 0] rfl
set_option maxRecDepth 20000 in
theorem ig_r3 : ∀ w ∈ wsL_law_r3, goodWord w = true := by decide +kernel
set_option maxHeartbeats 4000000 in
set_option maxRecDepth 100000 in
theorem it_r4 : ∀ w ∈ wsL_law_r4, w ∈ lw_tbl := sub_pk _ [72, 0, 0, 0, 0, 0, 0, 0, 0, 0, 0, 0, 0, 0, 0, 0, 0, 0, 0, 0, 0, 0, 0, 0] rfl
set_option maxRecDepth 20000 in
theorem ig_r4 : ∀ w ∈ wsL_law_r4, goodWord w = true := by decide +kernel
set_option maxHeartbeats 4000000 in
set_option maxRecDepth 100000 in
theorem it_r5 : ∀ w ∈ wsL_law_r5, w ∈ lw_tbl := sub_pk _ [96, 0, 0, 0, 0, 0, 0, 0, 0, 0, 0, 1, 0, 0, 0, 0, 0, 0, 0, 0, 0, 0, 0, 0] rfl
set_option maxRecDepth 20000 in
theorem ig_r5 : ∀ w ∈ wsL_law_r5, goodWord w = true := by decide +kernel
set_option maxRecDepth 20000 in
theorem it_r6 : ∀ w ∈ wsL_law_r6, w ∈ lw_tbl := sub_of _ [121, 122, 123, 124, 125, 125, 126, 127, 128, 129, 130, 131, 132, 133, 134, 135, 136, 137, 139, 140, 141, 142, 143, 144] (by decide +kernel)
set_option maxRecDepth 20000 in
theorem ig_r6 : ∀ w ∈ wsL_law_r6, goodWord w = true := by decide +kernel
set_option maxHeartbeats 4000000 in
set_option maxRecDepth 100000 in
theorem it_r7 : ∀ w ∈ wsL_law_r7, w ∈ lw_tbl := sub_pk _ [145, 0, 0, 0, 0, 0, 0, 0, 0, 17, 0, 0, 1, 0, 0, 0, 0, 0, 0, 0, 0, 0, 0, 0] rfl
set_option maxRecDepth 20000 in
theorem ig_r7 : ∀ w ∈ wsL_law_r7, goodWord w = true := by decide +kernel
set_option maxHeartbeats 4000000 in
set_option maxRecDepth 100000 in
theorem it_r8 : ∀ w ∈ wsL_law_r8, w ∈ lw_tbl := sub_pk _ [187, 0, 23, 0, 0, 1, 0, 0, 0, 1, 0, 0, 0, 0, 0, 0, 0, 0, 0, 0, 0, 0, 0, 15] rfl
set_option maxRecDepth 20000 in
theorem ig_r8 : ∀ w ∈ wsL_law_r8, goodWord w = true := by decide +kernel
set_option maxHeartbeats 4000000 in
set_option maxRecDepth 100000 in
theorem it_r9 : ∀ w ∈ wsL_law_r9, w ∈ lw_tbl := sub_pk _ [251, 1, 0, 0, 0, 0, 0, 0, 0, 0, 0, 0, 0, 0, 11, 0, 1, 0, 0, 0, 0, 0, 0, 0] rfl
set_option maxRecDepth 20000 in
theorem ig_r9 : ∀ w ∈ wsL_law_r9, goodWord w = true := by decide +kernel
set_option maxHeartbeats 4000000 in
set_option maxRecDepth 100000 in
theorem it_r10 : ∀ w ∈ wsL_law_r10, w ∈ lw_tbl := sub_pk _ [288, 9, 0, 0, 0, 1, 0, 0, 0, 0, 0, 0, 0, 0, 0, 9, 1, 1, 0, 0, 0, 0, 1, 0] rfl
set_option maxRecDepth 20000 in
theorem ig_r10 : ∀ w ∈ wsL_law_r10, goodWord w = true := by decide +kernel
set_option maxHeartbeats 4000000 in
set_option maxRecDepth 100000 in
theorem it_r11 : ∀ w ∈ wsL_law_r11, w ∈ lw_tbl := sub_pk _ [334, 0, 0, 0, 0, 0, 0, 0, 0, 0, 0, 0, 0, 0, 0, 0, 0, 0, 0, 0, 0, 0, 0, 0] rfl
set_option maxRecDepth 20000 in
theorem ig_r11 : ∀ w ∈ wsL_law_r11, goodWord w = true := by decide +kernel
set_option maxHeartbeats 4000000 in
set_option maxRecDepth 100000 in
theorem it_r12 : ∀ w ∈ wsL_law_r12, w ∈ lw_tbl := sub_pk _ [358, 0, 0, 0, 17, 0, 1, 0, 0, 0, 0, 0, 0, 0, 0, 0, 0, 0, 0, 0, 0, 0, 0, 0] rfl
set_option maxRecDepth 20000 in
theorem ig_r12 : ∀ w ∈ wsL_law_r12, goodWord w = true := by decide +kernel
set_option maxHeartbeats 4000000 in
set_option maxRecDepth 100000 in
theorem it_r13 : ∀ w ∈ wsL_law_r13, w ∈ lw_tbl := sub_pk _ [400, 0, 0, 0, 0, 0, 0, 0, 21, 0, 1, 0, 0, 0, 0, 0, 0, 0, 0, 0, 0, 0, 0, 11] rfl
set_option maxRecDepth 20000 in
theorem ig_r13 : ∀ w ∈ wsL_law_r13, goodWord w = true := by decide +kernel
set_option maxHeartbeats 4000000 in
set_option maxRecDepth 100000 in
theorem it_r14 : ∀ w ∈ wsL_law_r14, w ∈ lw_tbl := sub_pk _ [457, 1, 0, 0, 0, 0, 0, 0, 0, 0, 0, 0, 0, 0, 0, 0, 0, 0, 0, 0, 0, 0, 17, 0] rfl
set_option maxRecDepth 20000 in
theorem ig_r14 : ∀ w ∈ wsL_law_r14, goodWord w = true := by decide +kernel
set_option maxHeartbeats 4000000 in
set_option maxRecDepth 100000 in
theorem it_r15 : ∀ w ∈ wsL_law_r15, w ∈ lw_tbl := sub_pk _ [499, 0, 0, 0, 0, 0, 0, 0, 0, 0, 0, 0, 0, 0, 0, 0, 0, 0, 0, 0, 0, 0, 0, 0] rfl
set_option maxRecDepth 20000 in
theorem ig_r15 : ∀ w ∈ wsL_law_r15, goodWord w = true := by decide +kernel
set_option maxHeartbeats 4000000 in
set_option maxRecDepth 100000 in
theorem it_r16 : ∀ w ∈ wsL_law_r16, w ∈ lw_tbl := sub_pk _ [523, 0, 0, 0, 0, 0, 0, 29, 0, 0, 0, 0, 0, 0, 0, 0, 0, 21, 0, 0, 0, 0, 0, 0] rfl
set_option maxRecDepth 20000 in
theorem ig_r16 : ∀ w ∈ wsL_law_r16, goodWord w = true := by decide +kernel
set_option maxHeartbeats 4000000 in
set_option maxRecDepth 100000 in
theorem it_r17 : ∀ w ∈ wsL_law_r17, w ∈ lw_tbl := sub_pk _ [597, 0, 0, 0, 0, 0, 0, 0, 0, 0, 0, 0, 0, 0, 0, 0, 0, 0, 0, 0, 0, 0, 0, 0] rfl
set_option maxRecDepth 20000 in
theorem ig_r17 : ∀ w ∈ wsL_law_r17, goodWord w = true := by decide +kernel
set_option maxHeartbeats 4000000 in
set_option maxRecDepth 100000 in
theorem it_r18 : ∀ w ∈ wsL_law_r18, w ∈ lw_tbl := sub_pk _ [621, 0, 0, 0, 0, 0, 1, 0, 0, 1, 0, 0, 0, 0, 0, 1, 0, 0, 0, 0, 0, 1, 0, 0] rfl
set_option maxRecDepth 20000 in
theorem ig_r18 : ∀ w ∈ wsL_law_r18, goodWord w = true := by decide +kernel
set_option maxHeartbeats 4000000 in
set_option maxRecDepth 100000 in
theorem it_r19 : ∀ w ∈ wsL_law_r19, w ∈ lw_tbl := sub_pk _ [649, 0, 0, 0, 0, 0, 0, 0, 0, 1, 0, 0, 1, 0, 1, 0, 0, 0, 0, 0, 0, 0, 0, 0] rfl
set_option maxRecDepth 20000 in
theorem ig_r19 : ∀ w ∈ wsL_law_r19, goodWord w = true := by decide +kernel
set_option maxHeartbeats 4000000 in
set_option maxRecDepth 100000 in
theorem it_r20 : ∀ w ∈ wsL_law_r20, w ∈ lw_tbl := sub_pk _ [676, 0, 0, 0, 0, 0, 0, 1, 0, 0, 0, 0, 0, 0, 0, 0, 0, 0, 0, 0, 0, 0, 1, 0] rfl
set_option maxRecDepth 20000 in
theorem ig_r20 : ∀ w ∈ wsL_law_r20, goodWord w = true := by decide +kernel
set_option maxHeartbeats 4000000 in
set_option maxRecDepth 100000 in
theorem it_r21 : ∀ w ∈ wsL_law_r21, w ∈ lw_tbl := sub_pk _ [702, 0, 0, 0, 0, 0, 0, 0, 0, 0, 0, 0, 0, 0, 0, 1, 1, 1, 0, 0, 0, 1, 0, 0] rfl
set_option maxRecDepth 20000 in
theorem ig_r21 : ∀ w ∈ wsL_law_r21, goodWord w = true := by decide +kernel
set_option maxHeartbeats 4000000 in
set_option maxRecDepth 100000 in
theorem it_r22 : ∀ w ∈ wsL_law_r22, w ∈ lw_tbl := sub_pk _ [730, 3, 0, 1, 0, 0, 0, 1, 0, 0, 0, 0, 0, 1, 0, 5, 0, 0, 0, 0, 0, 1, 0, 3] rfl
set_option maxRecDepth 20000 in
theorem ig_r22 : ∀ w ∈ wsL_law_r22, goodWord w = true := by decide +kernel
set_option maxHeartbeats 4000000 in
set_option maxRecDepth 100000 in
theorem it_r23 : ∀ w ∈ wsL_law_r23, w ∈ lw_tbl := sub_pk _ [770, 0, 1, 0, 0, 0, 0, 0, 0, 1, 3, 0, 0, 1, 0, 1, 0, 1, 1, 0, 2, 0, 0, 0] rfl
set_option maxRecDepth 20000 in
theorem ig_r23 : ∀ w ∈ wsL_law_r23, goodWord w = true := by decide +kernel
set_option maxHeartbeats 4000000 in
set_option maxRecDepth 100000 in
theorem it_r24 : ∀ w ∈ wsL_law_r24, w ∈ lw_tbl := sub_pk _ [805, 0, 0, 0, 0, 0, 0, 0, 0, 0, 0, 0, 0, 0, 0, 0, 0, 0, 0, 0, 0, 0, 0, 0] rfl
set_option maxRecDepth 20000 in
theorem ig_r24 : ∀ w ∈ wsL_law_r24, goodWord w = true := by decide +kernel
set_option maxHeartbeats 4000000 in
set_option maxRecDepth 100000 in
theorem it_r25 : ∀ w ∈ wsL_law_r25, w ∈ lw_tbl := sub_pk _ [829, 0, 0, 0, 0, 0, 0, 0, 1, 0, 0, 1, 0, 0, 1, 0, 0, 1, 0, 0, 0, 0, 0, 0] rfl
set_option maxRecDepth 20000 in
theorem ig_r25 : ∀ w ∈ wsL_law_r25, goodWord w = true := by decide +kernel
set_option maxHeartbeats 4000000 in
set_option maxRecDepth 100000 in
theorem it_r26 : ∀ w ∈ wsL_law_r26, w ∈ lw_tbl := sub_pk _ [857, 0, 0, 0, 0, 0, 0, 0, 0, 0, 0, 1, 0, 0, 0, 0, 0, 0, 0, 1, 0, 0, 0, 0] rfl
set_option maxRecDepth 20000 in
theorem ig_r26 : ∀ w ∈ wsL_law_r26, goodWord w = true := by decide +kernel
set_option maxHeartbeats 4000000 in
set_option maxRecDepth 100000 in
theorem it_r27 : ∀ w ∈ wsL_law_r27, w ∈ lw_tbl := sub_pk _ [883, 0, 0, 0, 0, 0, 0, 0, 0, 0, 0, 0, 0, 0, 0, 0, 0, 0, 0, 0, 0, 0, 0, 0] rfl
set_option maxRecDepth 20000 in
theorem ig_r27 : ∀ w ∈ wsL_law_r27, goodWord w = true := by decide +kernel
set_option maxHeartbeats 4000000 in
set_option maxRecDepth 100000 in
theorem it_r28 : ∀ w ∈ wsL_law_r28, w ∈ lw_tbl := sub_pk _ [907, 0, 0, 0, 0, 0, 0, 0, 0, 1, 0, 1, 0, 1, 0, 0, 0, 0, 0, 1, 0, 3, 1, 0] rfl
set_option maxRecDepth 20000 in
theorem ig_r28 : ∀ w ∈ wsL_law_r28, goodWord w = true := by decide +kernel
set_option maxHeartbeats 4000000 in
set_option maxRecDepth 100000 in
theorem it_r29 : ∀ w ∈ wsL_law_r29, w ∈ lw_tbl := sub_pk _ [939, 0, 2, 0, 1, 0, 0, 0, 0, 0, 0, 0, 1, 0, 0, 1, 0, 0, 0, 1, 0, 0, 0, 1] rfl
set_option maxRecDepth 20000 in
theorem ig_r29 : ∀ w ∈ wsL_law_r29, goodWord w = true := by decide +kernel
set_option maxHeartbeats 4000000 in
set_option maxRecDepth 100000 in
theorem it_r30 : ∀ w ∈ wsL_law_r30, w ∈ lw_tbl := sub_pk _ [970, 0, 0, 0, 0, 0, 0, 0, 0, 0, 0, 0, 0, 0, 0, 0, 0, 0, 0, 0, 0, 0, 0, 0] rfl
set_option maxRecDepth 20000 in
theorem ig_r30 : ∀ w ∈ wsL_law_r30, goodWord w = true := by decide +kernel
set_option maxHeartbeats 4000000 in
set_option maxRecDepth 100000 in
theorem it_r31 : ∀ w ∈ wsL_law_r31, w ∈ lw_tbl := sub_pk _ [994, 0, 0, 0, 0, 0, 0, 0, 0, 0, 0, 0, 0, 0, 1, 0, 0, 0, 0, 0, 0, 0, 0, 0] rfl
set_option maxRecDepth 20000 in
theorem ig_r31 : ∀ w ∈ wsL_law_r31, goodWord w = true := by decide +kernel
set_option maxHeartbeats 4000000 in
set_option maxRecDepth 100000 in
theorem it_r32 : ∀ w ∈ wsL_law_r32, w ∈ lw_tbl := sub_pk _ [1019, 0, 0, 0, 0, 0, 0, 0, 0, 0, 0, 0, 0, 0, 0, 0, 0, 0, 0, 0, 0, 0, 0, 0] rfl
set_option maxRecDepth 20000 in
theorem ig_r32 : ∀ w ∈ wsL_law_r32, goodWord w = true := by decide +kernel
set_option maxHeartbeats 4000000 in
set_option maxRecDepth 100000 in
theorem it_r33 : ∀ w ∈ wsL_law_r33, w ∈ lw_tbl := sub_pk _ [1043, 0, 0, 0, 0, 0, 0, 0, 0, 0, 0, 0, 0, 0, 0, 0, 1, 0, 0, 0, 0, 0, 0, 0] rfl
set_option maxRecDepth 20000 in
theorem ig_r33 : ∀ w ∈ wsL_law_r33, goodWord w = true := by decide +kernel
set_option maxHeartbeats 4000000 in
set_option maxRecDepth 100000 in
theorem it_r34 : ∀ w ∈ wsL_law_r34, w ∈ lw_tbl := sub_pk _ [1068, 0, 0, 0, 0, 0, 0, 0, 0, 0, 0, 0, 0, 0, 0, 0, 0, 0, 0, 0, 0, 0, 0, 0] rfl
set_option maxRecDepth 20000 in
theorem ig_r34 : ∀ w ∈ wsL_law_r34, goodWord w = true := by decide +kernel
set_option maxHeartbeats 4000000 in
set_option maxRecDepth 100000 in
theorem it_r35 : ∀ w ∈ wsL_law_r35, w ∈ lw_tbl := sub_pk _ [1092, 0, 0, 0, 0, 0, 0, 0, 0, 0, 0, 0, 0, 0, 0, 0, 0, 0, 0, 0, 0, 0, 0, 0] rfl
set_option maxRecDepth 20000 in
theorem ig_r35 : ∀ w ∈ wsL_law_r35, goodWord w = true := by decide +kernel
set_option maxHeartbeats 4000000 in
set_option maxRecDepth 100000 in
theorem it_r36 : ∀ w ∈ wsL_law_r36, w ∈ lw_tbl := sub_pk _ [1116, 0, 0, 0, 0, 0, 0, 0, 0, 0, 0, 0, 0, 0, 0, 0, 0, 0, 0, 0, 0, 0, 0, 0] rfl
set_option maxRecDepth 20000 in
theorem ig_r36 : ∀ w ∈ wsL_law_r36, goodWord w = true := by decide +kernel
set_option maxHeartbeats 4000000 in
set_option maxRecDepth 100000 in
theorem it_r37 : ∀ w ∈ wsL_law_r37, w ∈ lw_tbl := sub_pk _ [1140, 0, 0, 0, 0, 0, 0, 0, 0, 0, 0, 0, 0, 0, 0, 0, 0, 0, 0, 0, 0, 0, 0, 0] rfl
set_option maxRecDepth 20000 in
theorem ig_r37 : ∀ w ∈ wsL_law_r37, goodWord w = true := by decide +kernel
set_option maxHeartbeats 4000000 in
set_option maxRecDepth 100000 in
theorem it_r38 : ∀ w ∈ wsL_law_r38, w ∈ lw_tbl := sub_pk _ [1164, 0, 0, 0, 0, 0, 0, 0, 0, 0, 0, 0, 0, 1, 0, 0, 0, 1, 0, 0, 0, 0, 0, 0] rfl
set_option maxRecDepth 20000 in
theorem ig_r38 : ∀ w ∈ wsL_law_r38, goodWord w = true := by decide +kernel
set_option maxHeartbeats 4000000 in
set_option maxRecDepth 100000 in
theorem it_r39 : ∀ w ∈ wsL_law_r39, w ∈ lw_tbl := sub_pk _ [1190, 0, 0, 0, 1, 0, 0, 0, 0, 0, 0, 0, 0, 0, 0, 0, 0, 0, 0, 0, 0, 0, 0, 0] rfl
set_option maxRecDepth 20000 in
theorem ig_r39 : ∀ w ∈ wsL_law_r39, goodWord w = true := by decide +kernel
set_option maxHeartbeats 4000000 in
set_option maxRecDepth 100000 in
theorem it_r40 : ∀ w ∈ wsL_law_r40, w ∈ lw_tbl := sub_pk _ [1215, 0, 0, 0, 0, 0, 0, 0, 0, 0, 1, 0, 0, 0, 0, 0, 0, 0, 0, 0, 0, 0, 0, 0] rfl
set_option maxRecDepth 20000 in
theorem ig_r40 : ∀ w ∈ wsL_law_r40, goodWord w = true := by decide +kernel
set_option maxHeartbeats 4000000 in
set_option maxRecDepth 100000 in
theorem it_r41 : ∀ w ∈ wsL_law_r41, w ∈ lw_tbl := sub_pk _ [1240, 0, 0, 0, 1, 0, 0, 0, 0, 0, 0, 0, 0, 0, 0, 0, 0, 0, 0, 0, 0, 0, 1, 0] rfl
set_option maxRecDepth 20000 in
theorem ig_r41 : ∀ w ∈ wsL_law_r41, goodWord w = true := by decide +kernel
set_option maxHeartbeats 4000000 in
set_option maxRecDepth 100000 in
theorem it_r42 : ∀ w ∈ wsL_law_r42, w ∈ lw_tbl := sub_pk _ [1266, 0, 0, 0, 0, 0, 0, 0, 0, 0, 0, 0, 0, 0, 0, 0, 0, 0, 0, 0, 0, 0, 0, 0] rfl
set_option maxRecDepth 20000 in
theorem ig_r42 : ∀ w ∈ wsL_law_r42, goodWord w = true := by decide +kernel
set_option maxHeartbeats 4000000 in
set_option maxRecDepth 100000 in
theorem it_r43 : ∀ w ∈ wsL_law_r43, w ∈ lw_tbl := sub_pk _ [1291, 0, 0, 0, 0, 0, 0, 0, 0, 0, 0, 0, 0, 0, 1, 0, 0, 1, 0, 0, 1, 0, 0, 0] rfl
set_option maxRecDepth 20000 in
theorem ig_r43 : ∀ w ∈ wsL_law_r43, goodWord w = true := by decide +kernel
set_option maxHeartbeats 4000000 in
set_option maxRecDepth 100000 in
theorem it_r44 : ∀ w ∈ wsL_law_r44, w ∈ lw_tbl := sub_pk _ [1319, 0, 0, 0, 0, 0, 0, 0, 0, 0, 0, 0, 0, 0, 0, 0, 0, 0, 0, 0, 0, 0, 0, 0] rfl
set_option maxRecDepth 20000 in
theorem ig_r44 : ∀ w ∈ wsL_law_r44, goodWord w = true := by decide +kernel
set_option maxHeartbeats 4000000 in
set_option maxRecDepth 100000 in
theorem it_r45 : ∀ w ∈ wsL_law_r45, w ∈ lw_tbl := sub_pk _ [1343, 0, 0, 0, 0, 0, 0, 0, 0, 0, 0, 0, 0, 0, 0, 0, 0, 0, 0, 0, 0, 0, 0, 0] rfl
set_option maxRecDepth 20000 in
theorem ig_r45 : ∀ w ∈ wsL_law_r45, goodWord w = true := by decide +kernel
set_option maxHeartbeats 4000000 in
set_option maxRecDepth 100000 in
theorem it_r46 : ∀ w ∈ wsL_law_r46, w ∈ lw_tbl := sub_pk _ [1367, 0, 0, 0, 0, 0, 0, 0, 0, 0, 0, 0, 0, 0, 0, 0, 0, 0, 0, 0, 0, 0, 0, 0] rfl
set_option maxRecDepth 20000 in
theorem ig_r46 : ∀ w ∈ wsL_law_r46, goodWord w = true := by decide +kernel
set_option maxHeartbeats 4000000 in
set_option maxRecDepth 100000 in
theorem it_r47 : ∀ w ∈ wsL_law_r47, w ∈ lw_tbl := sub_pk _ [1391, 0, 0, 0, 0, 0, 0, 0, 0, 0, 0, 0, 0, 0, 0, 0, 0, 0, 0, 0, 0, 0, 0, 0] rfl
set_option maxRecDepth 20000 in
theorem ig_r47 : ∀ w ∈ wsL_law_r47, goodWord w = true := by decide +kernel
set_option maxHeartbeats 4000000 in
set_option maxRecDepth 100000 in
theorem it_r48 : ∀ w ∈ wsL_law_r48, w ∈ lw_tbl := sub_pk _ [1415, 0, 0, 0, 0, 0, 0, 0, 0, 0, 0, 0, 0, 0, 0, 0, 0, 0, 0, 0, 0, 0, 0, 0] rfl
set_option maxRecDepth 20000 in
theorem ig_r48 : ∀ w ∈ wsL_law_r48, goodWord w = true := by decide +kernel
set_option maxHeartbeats 4000000 in
set_option maxRecDepth 100000 in
theorem it_r49 : ∀ w ∈ wsL_law_r49, w ∈ lw_tbl := sub_pk _ [1439, 0, 0, 0, 0, 0, 0, 0, 0, 0, 0, 0, 0, 0, 0, 0, 0, 0, 0, 0, 0, 0, 0, 0] rfl
set_option maxRecDepth 20000 in
theorem ig_r49 : ∀ w ∈ wsL_law_r49, goodWord w = true := by decide +kernel
set_option maxHeartbeats 4000000 in
set_option maxRecDepth 100000 in
theorem it_r50 : ∀ w ∈ wsL_law_r50, w ∈ lw_tbl := sub_pk _ [1463, 0, 0, 0, 0, 0, 0, 0, 0, 0, 0, 0, 0, 0, 0, 0, 0, 0, 0, 85, 0, 0, 0, 0] rfl
set_option maxRecDepth 20000 in
theorem ig_r50 : ∀ w ∈ wsL_law_r50, goodWord w = true := by decide +kernel
set_option maxHeartbeats 4000000 in
set_option maxRecDepth 100000 in
theorem it_r51 : ∀ w ∈ wsL_law_r51, w ∈ lw_tbl := sub_pk _ [1572, 0, 0, 0, 0, 0, 0, 0, 0, 0, 0, 0, 0, 0, 0, 0, 0, 0, 0, 0, 0, 0, 0, 0] rfl
set_option maxRecDepth 20000 in
theorem ig_r51 : ∀ w ∈ wsL_law_r51, goodWord w = true := by decide +kernel
set_option maxHeartbeats 4000000 in
set_option maxRecDepth 100000 in
theorem it_r52 : ∀ w ∈ wsL_law_r52, w ∈ lw_tbl := sub_pk _ [1597, 0, 0, 1, 0, 0, 1, 0, 0, 0, 0, 0, 0, 0, 0, 1, 0, 0, 1, 0, 1, 1, 0, 0] rfl
set_option maxRecDepth 20000 in
theorem ig_r52 : ∀ w ∈ wsL_law_r52, goodWord w = true := by decide +kernel
set_option maxHeartbeats 4000000 in
set_option maxRecDepth 100000 in
theorem it_r53 : ∀ w ∈ wsL_law_r53, w ∈ lw_tbl := sub_pk _ [1628, 0, 0, 1, 0, 0, 0, 0, 1, 0, 1, 1, 0, 0, 1, 0, 2, 1, 0, 0, 1, 0, 8, 1] rfl
set_option maxRecDepth 20000 in
theorem ig_r53 : ∀ w ∈ wsL_law_r53, goodWord w = true := by decide +kernel
set_option maxHeartbeats 4000000 in
set_option maxRecDepth 100000 in
theorem it_r54 : ∀ w ∈ wsL_law_r54, w ∈ lw_tbl := sub_pk _ [1670, 5, 1, 0, 2, 1, 0, 3, 1, 0, 0, 1, 0, 0, 1, 0, 0, 1, 0, 0, 1, 0, 0, 1] rfl
set_option maxRecDepth 20000 in
theorem ig_r54 : ∀ w ∈ wsL_law_r54, goodWord w = true := by decide +kernel
set_option maxHeartbeats 4000000 in
set_option maxRecDepth 100000 in
theorem it_r55 : ∀ w ∈ wsL_law_r55, w ∈ lw_tbl := sub_pk _ [1712, 0, 1, 0, 0, 1, 0, 0, 0, 1, 0, 0, 1, 0, 0, 1, 0, 0, 1, 0, 0, 1, 0, 0] rfl
set_option maxRecDepth 20000 in
theorem ig_r55 : ∀ w ∈ wsL_law_r55, goodWord w = true := by decide +kernel
set_option maxHeartbeats 4000000 in
set_option maxRecDepth 100000 in
theorem it_r56 : ∀ w ∈ wsL_law_r56, w ∈ lw_tbl := sub_pk _ [1744, 0, 0, 0, 0, 0, 0, 1, 0, 0, 1, 0, 0, 0, 0, 0, 0, 1, 0, 0, 0, 0, 0, 0] rfl
set_option maxRecDepth 20000 in
theorem ig_r56 : ∀ w ∈ wsL_law_r56, goodWord w = true := by decide +kernel
set_option maxHeartbeats 4000000 in
set_option maxRecDepth 100000 in
theorem it_r57 : ∀ w ∈ wsL_law_r57, w ∈ lw_tbl := sub_pk _ [1771, 0, 0, 0, 0, 0, 0, 0, 0, 0, 0, 0, 0, 0, 0, 0, 1, 0, 0, 1, 0, 0, 1, 0] rfl
set_option maxRecDepth 20000 in
theorem ig_r57 : ∀ w ∈ wsL_law_r57, goodWord w = true := by decide +kernel
set_option maxHeartbeats 4000000 in
set_option maxRecDepth 100000 in
theorem it_r58 : ∀ w ∈ wsL_law_r58, w ∈ lw_tbl := sub_pk _ [1798, 1, 0, 0, 0, 0, 0, 0, 0, 0, 0, 0, 0, 1, 0, 0, 0, 0, 0, 0, 1, 0, 0, 0] rfl
set_option maxRecDepth 20000 in
theorem ig_r58 : ∀ w ∈ wsL_law_r58, goodWord w = true := by decide +kernel
set_option maxHeartbeats 4000000 in
set_option maxRecDepth 100000 in
theorem it_r59 : ∀ w ∈ wsL_law_r59, w ∈ lw_tbl := sub_pk _ [1825, 0, 0, 1, 0, 0, 1, 0, 0, 1, 0, 0, 0, 0, 0, 0, 0, 0, 0, 0, 0, 0, 0, 0] rfl
set_option maxRecDepth 20000 in
theorem ig_r59 : ∀ w ∈ wsL_law_r59, goodWord w = true := by decide +kernel
set_option maxHeartbeats 4000000 in
set_option maxRecDepth 100000 in
theorem it_r60 : ∀ w ∈ wsL_law_r60, w ∈ lw_tbl := sub_pk _ [1852, 0, 0, 0, 1, 0, 0, 0, 0, 0, 0, 1, 0, 0, 0, 0, 0, 0, 1, 0, 0, 1, 0, 0] rfl
set_option maxRecDepth 20000 in
theorem ig_r60 : ∀ w ∈ wsL_law_r60, goodWord w = true := by decide +kernel
set_option maxHeartbeats 4000000 in
set_option maxRecDepth 100000 in
theorem it_r61 : ∀ w ∈ wsL_law_r61, w ∈ lw_tbl := sub_pk _ [1880, 0, 0, 0, 0, 0, 0, 0, 0, 0, 0, 0, 0, 0, 0, 0, 0, 0, 0, 0, 0, 1, 0, 0] rfl
set_option maxRecDepth 20000 in
theorem ig_r61 : ∀ w ∈ wsL_law_r61, goodWord w = true := by decide +kernel
set_option maxHeartbeats 4000000 in
set_option maxRecDepth 100000 in
theorem it_r62 : ∀ w ∈ wsL_law_r62, w ∈ lw_tbl := sub_pk _ [1906, 0, 0, 1, 0, 4, 1, 0, 2, 1, 0, 0, 1, 0, 0, 1, 0, 0, 0, 0, 0, 0, 1, 0] rfl
set_option maxRecDepth 20000 in
theorem ig_r62 : ∀ w ∈ wsL_law_r62, goodWord w = true := by decide +kernel
set_option maxHeartbeats 4000000 in
set_option maxRecDepth 100000 in
theorem it_r63 : ∀ w ∈ wsL_law_r63, w ∈ lw_tbl := sub_pk _ [1942, 0, 0, 0, 0, 1, 0, 0, 0, 1, 0, 0, 0, 0, 0, 0, 1, 0, 0, 0, 0, 0, 0, 0] rfl
set_option maxRecDepth 20000 in
theorem ig_r63 : ∀ w ∈ wsL_law_r63, goodWord w = true := by decide +kernel
set_option maxHeartbeats 4000000 in
set_option maxRecDepth 100000 in
theorem it_r64 : ∀ w ∈ wsL_law_r64, w ∈ lw_tbl := sub_pk _ [1969, 0, 0, 0, 0, 0, 0, 0, 0, 0, 0, 1, 0, 0, 0, 0, 0, 0, 0, 0, 0, 0, 1, 0] rfl
set_option maxRecDepth 20000 in
theorem ig_r64 : ∀ w ∈ wsL_law_r64, goodWord w = true := by decide +kernel
set_option maxHeartbeats 4000000 in
set_option maxRecDepth 100000 in
theorem it_r65 : ∀ w ∈ wsL_law_r65, w ∈ lw_tbl := sub_pk _ [1995, 0, 0, 0, 0, 1, 0, 0, 0, 0, 0, 0, 1, 0, 0, 0, 0, 0, 0, 0, 0, 0, 0, 0] rfl
set_option maxRecDepth 20000 in
theorem ig_r65 : ∀ w ∈ wsL_law_r65, goodWord w = true := by decide +kernel
set_option maxHeartbeats 4000000 in
set_option maxRecDepth 100000 in
theorem it_r66 : ∀ w ∈ wsL_law_r66, w ∈ lw_tbl := sub_pk _ [2022, 0, 0, 0, 0, 0, 0, 0, 1, 0, 0, 1, 0, 0, 1, 0, 0, 1, 0, 0, 0, 0, 0, 0] rfl
set_option maxRecDepth 20000 in
theorem ig_r66 : ∀ w ∈ wsL_law_r66, goodWord w = true := by decide +kernel
set_option maxHeartbeats 4000000 in
set_option maxRecDepth 100000 in
theorem it_r67 : ∀ w ∈ wsL_law_r67, w ∈ lw_tbl := sub_pk _ [2050, 0, 0, 0, 0, 0, 0, 0, 1, 0, 0, 0, 0, 1, 0, 0, 1, 0, 0, 0, 0, 0, 0, 0] rfl
set_option maxRecDepth 20000 in
theorem ig_r67 : ∀ w ∈ wsL_law_r67, goodWord w = true := by decide +kernel
set_option maxHeartbeats 4000000 in
set_option maxRecDepth 100000 in
theorem it_r68 : ∀ w ∈ wsL_law_r68, w ∈ lw_tbl := sub_pk _ [2077, 0, 0, 0, 0, 0, 0, 0, 0, 0, 0, 0, 0, 0, 0, 0, 0, 0, 0, 0, 0, 0, 0, 0] rfl
set_option maxRecDepth 20000 in
theorem ig_r68 : ∀ w ∈ wsL_law_r68, goodWord w = true := by decide +kernel
set_option maxHeartbeats 4000000 in
set_option maxRecDepth 100000 in
theorem it_X11 : ∀ w ∈ wsX110, w ∈ lw_tbl := sub_pk _ [569, 1, 1, 1, 1, 1, 1, 1, 1, 1] rfl
set_option maxRecDepth 20000 in
theorem ig_X11 : ∀ w ∈ wsX110, goodWord w = true := by decide +kernel
set_option maxHeartbeats 4000000 in
set_option maxRecDepth 100000 in
theorem it_X12 : ∀ w ∈ wsX120, w ∈ lw_tbl := sub_pk _ [1482, 1, 1, 1, 1, 1, 1, 1, 1, 1, 1, 1, 1, 1, 1, 1, 1, 1, 1, 1, 1, 1, 1, 1, 1, 1, 1, 1, 1, 1, 1, 1, 1, 1, 1, 1, 1, 1, 1, 1, 1, 1] rfl
set_option maxRecDepth 20000 in
theorem ig_X12 : ∀ w ∈ wsX120, goodWord w = true := by decide +kernel
set_option maxHeartbeats 4000000 in
set_option maxRecDepth 100000 in
theorem it_X10 : ∀ w ∈ wsX100, w ∈ lw_tbl := sub_pk _ [154, 1, 1, 1, 1, 1, 1, 1] rfl
set_option maxRecDepth 20000 in
theorem ig_X10 : ∀ w ∈ wsX100, goodWord w = true := by decide +kernel
set_option maxHeartbeats 4000000 in
set_option maxRecDepth 100000 in
theorem it_X5 : ∀ w ∈ wsX50, w ∈ lw_tbl := sub_pk _ [189, 1, 1, 1, 1, 1, 1, 1, 1, 1, 1] rfl
set_option maxRecDepth 20000 in
theorem ig_X5 : ∀ w ∈ wsX50, goodWord w = true := by decide +kernel
set_option maxHeartbeats 4000000 in
set_option maxRecDepth 100000 in
theorem it_X0 : ∀ w ∈ wsX00, w ∈ lw_tbl := sub_pk _ [235, 1, 1, 1, 1, 1, 1] rfl
set_option maxRecDepth 20000 in
theorem ig_X0 : ∀ w ∈ wsX00, goodWord w = true := by decide +kernel
set_option maxHeartbeats 4000000 in
set_option maxRecDepth 100000 in
theorem it_X9 : ∀ w ∈ wsX90, w ∈ lw_tbl := sub_pk _ [266, 1, 1, 1, 1] rfl
set_option maxRecDepth 20000 in
theorem ig_X9 : ∀ w ∈ wsX90, goodWord w = true := by decide +kernel
set_option maxHeartbeats 4000000 in
set_option maxRecDepth 100000 in
theorem it_X8 : ∀ w ∈ wsX80, w ∈ lw_tbl := sub_pk _ [289, 1, 1, 1] rfl
set_option maxRecDepth 20000 in
theorem ig_X8 : ∀ w ∈ wsX80, goodWord w = true := by decide +kernel
set_option maxHeartbeats 4000000 in
set_option maxRecDepth 100000 in
theorem it_X6 : ∀ w ∈ wsX60, w ∈ lw_tbl := sub_pk _ [313, 1, 1, 1] rfl
set_option maxRecDepth 20000 in
theorem ig_X6 : ∀ w ∈ wsX60, goodWord w = true := by decide +kernel
set_option maxHeartbeats 4000000 in
set_option maxRecDepth 100000 in
theorem it_X2 : ∀ w ∈ wsX20, w ∈ lw_tbl := sub_pk _ [530, 1, 1, 1, 1, 1, 1, 1, 1, 1, 1, 1, 1, 1] rfl
set_option maxRecDepth 20000 in
theorem ig_X2 : ∀ w ∈ wsX20, goodWord w = true := by decide +kernel
set_option maxHeartbeats 4000000 in
set_option maxRecDepth 100000 in
theorem it_X3 : ∀ w ∈ wsX30, w ∈ lw_tbl := sub_pk _ [362, 1, 1, 1, 1, 1, 1, 1] rfl
set_option maxRecDepth 20000 in
theorem ig_X3 : ∀ w ∈ wsX30, goodWord w = true := by decide +kernel
set_option maxHeartbeats 4000000 in
set_option maxRecDepth 100000 in
theorem it_X1 : ∀ w ∈ wsX10, w ∈ lw_tbl := sub_pk _ [408, 1, 1, 1, 1, 1, 1, 1, 1, 1] rfl
set_option maxRecDepth 20000 in
theorem ig_X1 : ∀ w ∈ wsX10, goodWord w = true := by decide +kernel
set_option maxHeartbeats 4000000 in
set_option maxRecDepth 100000 in
theorem it_X4 : ∀ w ∈ wsX40, w ∈ lw_tbl := sub_pk _ [445, 1, 1, 1, 1] rfl
set_option maxRecDepth 20000 in
theorem ig_X4 : ∀ w ∈ wsX40, goodWord w = true := by decide +kernel
set_option maxHeartbeats 4000000 in
set_option maxRecDepth 100000 in
theorem it_X7 : ∀ w ∈ wsX70, w ∈ lw_tbl := sub_pk _ [480, 1, 1, 1, 1, 1, 1, 1] rfl
set_option maxRecDepth 20000 in
theorem ig_X7 : ∀ w ∈ wsX70, goodWord w = true := by decide +kernel
