theorem str_of {args : Array Value} {s : State} {own tx : String} {k n : Nat} {byt : List Int32} {A : Nat → Prop} (hn : n ≤ 10) (hr : (Cond.stringRef own k tx).before args s = true) (hex : (Cond.exactly (.string own k) "java/lang/String").before args s = true) (hco : (Cond.eq (.field (.string own k) "java/lang/String" "coder" "B") (.int 0)).before args s = true) (har : (Cond.arrayOf (.field (.string own k) "java/lang/String" "value" "[B") .byte).before args s = true) (hle : (Cond.eq (.length (.field (.string own k) "java/lang/String" "value" "[B")) (.int (Int32.ofNat n))).before args s = true) (hel : ∀ j : Nat, j < n → (Cond.eq (.elem (.field (.string own k) "java/lang/String" "value" "[B") (.int (Int32.ofNat j))) (.int (byt.getD j 0))).before args s = true) (hA : ∀ a : Nat, a < s.heap.size → ¬ A a) : ∃ (a av n9 : Nat) (f : Nat → Int32), (n9 ≤ 10 ∧ n9 = n) ∧ vk_R own k tx a s ∧ kstr a av n9 f A s s.heap := by
  obtain ⟨a, c, cA, kA, q1, q2, q3, q4, q5, q6, -⟩ := Cond.exactly_spec (args := args) (first := s) (o := none) (s := s) (idx := []) (t := .string own k) (cls := "java/lang/String") hex
  obtain ⟨t, ht, hT⟩ := va_Tof (f := fun j => .int (byt.getD j 0)) (A := A) (by omega) har (va_eqt hle) (fun j hj => va_eqt (hel j hj)) hA
  exact ⟨a, t, n, fun j => byt.getD j 0, ⟨hn, rfl⟩, vk_R.of hr q1, ⟨cA, q3, q5, by rw [q6]; exact q2, hA a (Array.getElem?_eq_some_iff.mp q3).1⟩, vk_OFof q1 (va_eqt hco) hA, vk_OFof q1 ht hA, hT⟩

theorem ns_0 {s : State} {b : Nat} (hts : ∀ w ∈ lw_tbl, w.before #[Value.ref b] s = true) (hgv : (Cond.and given_1 narrow_1).before #[Value.ref b] s = true) {A : Nat → Prop} (hA : ∀ a : Nat, a < s.heap.size → ¬ A a) : ∃ (a av n : Nat) (f : Nat → Int32), (n ≤ 10 ∧ n = 4) ∧ vk_R RX2 151 "drum" a s ∧ kstr a av n f A s s.heap := by
  have hs := flat_of_before _ hgv
  refine str_of (byt := [100, 114, 117, 109]) (by omega) (hts _ (List.mem_of_getElem? (i := 665) (by decide +kernel))) (hs _ (List.mem_of_getElem? (i := 9) (by decide +kernel))) (hs _ (List.mem_of_getElem? (i := 10) (by decide +kernel))) (hs _ (List.mem_of_getElem? (i := 11) (by decide +kernel))) (hs _ (List.mem_of_getElem? (i := 12) (by decide +kernel))) (fun j hj => ?_) hA
  rcases (show j = 0 ∨ j = 1 ∨ j = 2 ∨ j = 3 by omega) with rfl | rfl | rfl | rfl
  · exact hs _ (List.mem_of_getElem? (i := 13) (by decide +kernel))
  · exact hs _ (List.mem_of_getElem? (i := 14) (by decide +kernel))
  · exact hs _ (List.mem_of_getElem? (i := 15) (by decide +kernel))
  · exact hs _ (List.mem_of_getElem? (i := 16) (by decide +kernel))
theorem ns_1 {s : State} {b : Nat} (hts : ∀ w ∈ lw_tbl, w.before #[Value.ref b] s = true) (hgv : (Cond.and given_1 narrow_1).before #[Value.ref b] s = true) {A : Nat → Prop} (hA : ∀ a : Nat, a < s.heap.size → ¬ A a) : ∃ (a av n : Nat) (f : Nat → Int32), (n ≤ 10 ∧ n = 5) ∧ vk_R RX2 157 "steps" a s ∧ kstr a av n f A s s.heap := by
  have hs := flat_of_before _ hgv
  refine str_of (byt := [115, 116, 101, 112, 115]) (by omega) (hts _ (List.mem_of_getElem? (i := 726) (by decide +kernel))) (hs _ (List.mem_of_getElem? (i := 17) (by decide +kernel))) (hs _ (List.mem_of_getElem? (i := 18) (by decide +kernel))) (hs _ (List.mem_of_getElem? (i := 19) (by decide +kernel))) (hs _ (List.mem_of_getElem? (i := 20) (by decide +kernel))) (fun j hj => ?_) hA
  rcases (show j = 0 ∨ j = 1 ∨ j = 2 ∨ j = 3 ∨ j = 4 by omega) with rfl | rfl | rfl | rfl | rfl
  · exact hs _ (List.mem_of_getElem? (i := 21) (by decide +kernel))
  · exact hs _ (List.mem_of_getElem? (i := 22) (by decide +kernel))
  · exact hs _ (List.mem_of_getElem? (i := 23) (by decide +kernel))
  · exact hs _ (List.mem_of_getElem? (i := 24) (by decide +kernel))
  · exact hs _ (List.mem_of_getElem? (i := 25) (by decide +kernel))
theorem ns_2 {s : State} {b : Nat} (hts : ∀ w ∈ lw_tbl, w.before #[Value.ref b] s = true) (hgv : (Cond.and given_1 narrow_1).before #[Value.ref b] s = true) {A : Nat → Prop} (hA : ∀ a : Nat, a < s.heap.size → ¬ A a) : ∃ (a av n : Nat) (f : Nat → Int32), (n ≤ 10 ∧ n = 3) ∧ vk_R RX2 161 "jam" a s ∧ kstr a av n f A s s.heap := by
  have hs := flat_of_before _ hgv
  refine str_of (byt := [106, 97, 109]) (by omega) (hts _ (List.mem_of_getElem? (i := 731) (by decide +kernel))) (hs _ (List.mem_of_getElem? (i := 26) (by decide +kernel))) (hs _ (List.mem_of_getElem? (i := 27) (by decide +kernel))) (hs _ (List.mem_of_getElem? (i := 28) (by decide +kernel))) (hs _ (List.mem_of_getElem? (i := 29) (by decide +kernel))) (fun j hj => ?_) hA
  rcases (show j = 0 ∨ j = 1 ∨ j = 2 by omega) with rfl | rfl | rfl
  · exact hs _ (List.mem_of_getElem? (i := 30) (by decide +kernel))
  · exact hs _ (List.mem_of_getElem? (i := 31) (by decide +kernel))
  · exact hs _ (List.mem_of_getElem? (i := 32) (by decide +kernel))
theorem ns_3 {s : State} {b : Nat} (hts : ∀ w ∈ lw_tbl, w.before #[Value.ref b] s = true) (hgv : (Cond.and given_1 narrow_1).before #[Value.ref b] s = true) {A : Nat → Prop} (hA : ∀ a : Nat, a < s.heap.size → ¬ A a) : ∃ (a av n : Nat) (f : Nat → Int32), (n ≤ 10 ∧ n = 5) ∧ vk_R RX2 162 "slack" a s ∧ kstr a av n f A s s.heap := by
  have hs := flat_of_before _ hgv
  refine str_of (byt := [115, 108, 97, 99, 107]) (by omega) (hts _ (List.mem_of_getElem? (i := 732) (by decide +kernel))) (hs _ (List.mem_of_getElem? (i := 33) (by decide +kernel))) (hs _ (List.mem_of_getElem? (i := 34) (by decide +kernel))) (hs _ (List.mem_of_getElem? (i := 35) (by decide +kernel))) (hs _ (List.mem_of_getElem? (i := 36) (by decide +kernel))) (fun j hj => ?_) hA
  rcases (show j = 0 ∨ j = 1 ∨ j = 2 ∨ j = 3 ∨ j = 4 by omega) with rfl | rfl | rfl | rfl | rfl
  · exact hs _ (List.mem_of_getElem? (i := 37) (by decide +kernel))
  · exact hs _ (List.mem_of_getElem? (i := 38) (by decide +kernel))
  · exact hs _ (List.mem_of_getElem? (i := 39) (by decide +kernel))
  · exact hs _ (List.mem_of_getElem? (i := 40) (by decide +kernel))
  · exact hs _ (List.mem_of_getElem? (i := 41) (by decide +kernel))
theorem ns_4 {s : State} {b : Nat} (hts : ∀ w ∈ lw_tbl, w.before #[Value.ref b] s = true) (hgv : (Cond.and given_1 narrow_1).before #[Value.ref b] s = true) {A : Nat → Prop} (hA : ∀ a : Nat, a < s.heap.size → ¬ A a) : ∃ (a av n : Nat) (f : Nat → Int32), (n ≤ 10 ∧ n = 5) ∧ vk_R RX2 126 "track" a s ∧ kstr a av n f A s s.heap := by
  have hs := flat_of_before _ hgv
  refine str_of (byt := [116, 114, 97, 99, 107]) (by omega) (hts _ (List.mem_of_getElem? (i := 733) (by decide +kernel))) (hs _ (List.mem_of_getElem? (i := 42) (by decide +kernel))) (hs _ (List.mem_of_getElem? (i := 43) (by decide +kernel))) (hs _ (List.mem_of_getElem? (i := 44) (by decide +kernel))) (hs _ (List.mem_of_getElem? (i := 45) (by decide +kernel))) (fun j hj => ?_) hA
  rcases (show j = 0 ∨ j = 1 ∨ j = 2 ∨ j = 3 ∨ j = 4 by omega) with rfl | rfl | rfl | rfl | rfl
  · exact hs _ (List.mem_of_getElem? (i := 46) (by decide +kernel))
  · exact hs _ (List.mem_of_getElem? (i := 47) (by decide +kernel))
  · exact hs _ (List.mem_of_getElem? (i := 48) (by decide +kernel))
  · exact hs _ (List.mem_of_getElem? (i := 49) (by decide +kernel))
  · exact hs _ (List.mem_of_getElem? (i := 50) (by decide +kernel))
theorem ns_5 {s : State} {b : Nat} (hts : ∀ w ∈ lw_tbl, w.before #[Value.ref b] s = true) (hgv : (Cond.and given_1 narrow_1).before #[Value.ref b] s = true) {A : Nat → Prop} (hA : ∀ a : Nat, a < s.heap.size → ¬ A a) : ∃ (a av n : Nat) (f : Nat → Int32), (n ≤ 10 ∧ n = 4) ∧ vk_R RX2 135 "nose" a s ∧ kstr a av n f A s s.heap := by
  have hs := flat_of_before _ hgv
  refine str_of (byt := [110, 111, 115, 101]) (by omega) (hts _ (List.mem_of_getElem? (i := 741) (by decide +kernel))) (hs _ (List.mem_of_getElem? (i := 51) (by decide +kernel))) (hs _ (List.mem_of_getElem? (i := 52) (by decide +kernel))) (hs _ (List.mem_of_getElem? (i := 53) (by decide +kernel))) (hs _ (List.mem_of_getElem? (i := 54) (by decide +kernel))) (fun j hj => ?_) hA
  rcases (show j = 0 ∨ j = 1 ∨ j = 2 ∨ j = 3 by omega) with rfl | rfl | rfl | rfl
  · exact hs _ (List.mem_of_getElem? (i := 55) (by decide +kernel))
  · exact hs _ (List.mem_of_getElem? (i := 56) (by decide +kernel))
  · exact hs _ (List.mem_of_getElem? (i := 57) (by decide +kernel))
  · exact hs _ (List.mem_of_getElem? (i := 58) (by decide +kernel))
theorem ns_6 {s : State} {b : Nat} (hts : ∀ w ∈ lw_tbl, w.before #[Value.ref b] s = true) (hgv : (Cond.and given_1 narrow_1).before #[Value.ref b] s = true) {A : Nat → Prop} (hA : ∀ a : Nat, a < s.heap.size → ¬ A a) : ∃ (a av n : Nat) (f : Nat → Int32), (n ≤ 10 ∧ n = 2) ∧ vk_R RX3 47 "on" a s ∧ kstr a av n f A s s.heap := by
  have hs := flat_of_before _ hgv
  refine str_of (byt := [111, 110]) (by omega) (hts _ (List.mem_of_getElem? (i := 748) (by decide +kernel))) (hs _ (List.mem_of_getElem? (i := 59) (by decide +kernel))) (hs _ (List.mem_of_getElem? (i := 60) (by decide +kernel))) (hs _ (List.mem_of_getElem? (i := 61) (by decide +kernel))) (hs _ (List.mem_of_getElem? (i := 62) (by decide +kernel))) (fun j hj => ?_) hA
  rcases (show j = 0 ∨ j = 1 by omega) with rfl | rfl
  · exact hs _ (List.mem_of_getElem? (i := 63) (by decide +kernel))
  · exact hs _ (List.mem_of_getElem? (i := 64) (by decide +kernel))
theorem ns_7 {s : State} {b : Nat} (hts : ∀ w ∈ lw_tbl, w.before #[Value.ref b] s = true) (hgv : (Cond.and given_1 narrow_1).before #[Value.ref b] s = true) {A : Nat → Prop} (hA : ∀ a : Nat, a < s.heap.size → ¬ A a) : ∃ (a av n : Nat) (f : Nat → Int32), (n ≤ 10 ∧ n = 2) ∧ vk_R RX3 57 "at" a s ∧ kstr a av n f A s s.heap := by
  have hs := flat_of_before _ hgv
  refine str_of (byt := [97, 116]) (by omega) (hts _ (List.mem_of_getElem? (i := 751) (by decide +kernel))) (hs _ (List.mem_of_getElem? (i := 65) (by decide +kernel))) (hs _ (List.mem_of_getElem? (i := 66) (by decide +kernel))) (hs _ (List.mem_of_getElem? (i := 67) (by decide +kernel))) (hs _ (List.mem_of_getElem? (i := 68) (by decide +kernel))) (fun j hj => ?_) hA
  rcases (show j = 0 ∨ j = 1 by omega) with rfl | rfl
  · exact hs _ (List.mem_of_getElem? (i := 69) (by decide +kernel))
  · exact hs _ (List.mem_of_getElem? (i := 70) (by decide +kernel))
theorem ns_8 {s : State} {b : Nat} (hts : ∀ w ∈ lw_tbl, w.before #[Value.ref b] s = true) (hgv : (Cond.and given_1 narrow_1).before #[Value.ref b] s = true) {A : Nat → Prop} (hA : ∀ a : Nat, a < s.heap.size → ¬ A a) : ∃ (a av n : Nat) (f : Nat → Int32), (n ≤ 10 ∧ n = 4) ∧ vk_R RX3 58 "wide" a s ∧ kstr a av n f A s s.heap := by
  have hs := flat_of_before _ hgv
  refine str_of (byt := [119, 105, 100, 101]) (by omega) (hts _ (List.mem_of_getElem? (i := 752) (by decide +kernel))) (hs _ (List.mem_of_getElem? (i := 71) (by decide +kernel))) (hs _ (List.mem_of_getElem? (i := 72) (by decide +kernel))) (hs _ (List.mem_of_getElem? (i := 73) (by decide +kernel))) (hs _ (List.mem_of_getElem? (i := 74) (by decide +kernel))) (fun j hj => ?_) hA
  rcases (show j = 0 ∨ j = 1 ∨ j = 2 ∨ j = 3 by omega) with rfl | rfl | rfl | rfl
  · exact hs _ (List.mem_of_getElem? (i := 75) (by decide +kernel))
  · exact hs _ (List.mem_of_getElem? (i := 76) (by decide +kernel))
  · exact hs _ (List.mem_of_getElem? (i := 77) (by decide +kernel))
  · exact hs _ (List.mem_of_getElem? (i := 78) (by decide +kernel))
theorem ns_9 {s : State} {b : Nat} (hts : ∀ w ∈ lw_tbl, w.before #[Value.ref b] s = true) (hgv : (Cond.and given_1 narrow_1).before #[Value.ref b] s = true) {A : Nat → Prop} (hA : ∀ a : Nat, a < s.heap.size → ¬ A a) : ∃ (a av n : Nat) (f : Nat → Int32), (n ≤ 10 ∧ n = 4) ∧ vk_R RX3 59 "high" a s ∧ kstr a av n f A s s.heap := by
  have hs := flat_of_before _ hgv
  refine str_of (byt := [104, 105, 103, 104]) (by omega) (hts _ (List.mem_of_getElem? (i := 753) (by decide +kernel))) (hs _ (List.mem_of_getElem? (i := 79) (by decide +kernel))) (hs _ (List.mem_of_getElem? (i := 80) (by decide +kernel))) (hs _ (List.mem_of_getElem? (i := 81) (by decide +kernel))) (hs _ (List.mem_of_getElem? (i := 82) (by decide +kernel))) (fun j hj => ?_) hA
  rcases (show j = 0 ∨ j = 1 ∨ j = 2 ∨ j = 3 by omega) with rfl | rfl | rfl | rfl
  · exact hs _ (List.mem_of_getElem? (i := 83) (by decide +kernel))
  · exact hs _ (List.mem_of_getElem? (i := 84) (by decide +kernel))
  · exact hs _ (List.mem_of_getElem? (i := 85) (by decide +kernel))
  · exact hs _ (List.mem_of_getElem? (i := 86) (by decide +kernel))
theorem ns_10 {s : State} {b : Nat} (hts : ∀ w ∈ lw_tbl, w.before #[Value.ref b] s = true) (hgv : (Cond.and given_1 narrow_1).before #[Value.ref b] s = true) {A : Nat → Prop} (hA : ∀ a : Nat, a < s.heap.size → ¬ A a) : ∃ (a av n : Nat) (f : Nat → Int32), (n ≤ 10 ∧ n = 5) ∧ vk_R RX3 60 "steep" a s ∧ kstr a av n f A s s.heap := by
  have hs := flat_of_before _ hgv
  refine str_of (byt := [115, 116, 101, 101, 112]) (by omega) (hts _ (List.mem_of_getElem? (i := 754) (by decide +kernel))) (hs _ (List.mem_of_getElem? (i := 87) (by decide +kernel))) (hs _ (List.mem_of_getElem? (i := 88) (by decide +kernel))) (hs _ (List.mem_of_getElem? (i := 89) (by decide +kernel))) (hs _ (List.mem_of_getElem? (i := 90) (by decide +kernel))) (fun j hj => ?_) hA
  rcases (show j = 0 ∨ j = 1 ∨ j = 2 ∨ j = 3 ∨ j = 4 by omega) with rfl | rfl | rfl | rfl | rfl
  · exact hs _ (List.mem_of_getElem? (i := 91) (by decide +kernel))
  · exact hs _ (List.mem_of_getElem? (i := 92) (by decide +kernel))
  · exact hs _ (List.mem_of_getElem? (i := 93) (by decide +kernel))
  · exact hs _ (List.mem_of_getElem? (i := 94) (by decide +kernel))
  · exact hs _ (List.mem_of_getElem? (i := 95) (by decide +kernel))
theorem ns_11 {s : State} {b : Nat} (hts : ∀ w ∈ lw_tbl, w.before #[Value.ref b] s = true) (hgv : (Cond.and given_1 narrow_1).before #[Value.ref b] s = true) {A : Nat → Prop} (hA : ∀ a : Nat, a < s.heap.size → ¬ A a) : ∃ (a av n : Nat) (f : Nat → Int32), (n ≤ 10 ∧ n = 4) ∧ vk_R RX2 140 "pawl" a s ∧ kstr a av n f A s s.heap := by
  have hs := flat_of_before _ hgv
  refine str_of (byt := [112, 97, 119, 108]) (by omega) (hts _ (List.mem_of_getElem? (i := 755) (by decide +kernel))) (hs _ (List.mem_of_getElem? (i := 96) (by decide +kernel))) (hs _ (List.mem_of_getElem? (i := 97) (by decide +kernel))) (hs _ (List.mem_of_getElem? (i := 98) (by decide +kernel))) (hs _ (List.mem_of_getElem? (i := 99) (by decide +kernel))) (fun j hj => ?_) hA
  rcases (show j = 0 ∨ j = 1 ∨ j = 2 ∨ j = 3 by omega) with rfl | rfl | rfl | rfl
  · exact hs _ (List.mem_of_getElem? (i := 100) (by decide +kernel))
  · exact hs _ (List.mem_of_getElem? (i := 101) (by decide +kernel))
  · exact hs _ (List.mem_of_getElem? (i := 102) (by decide +kernel))
  · exact hs _ (List.mem_of_getElem? (i := 103) (by decide +kernel))
theorem ns_12 {s : State} {b : Nat} (hts : ∀ w ∈ lw_tbl, w.before #[Value.ref b] s = true) (hgv : (Cond.and given_1 narrow_1).before #[Value.ref b] s = true) {A : Nat → Prop} (hA : ∀ a : Nat, a < s.heap.size → ¬ A a) : ∃ (a av n : Nat) (f : Nat → Int32), (n ≤ 10 ∧ n = 2) ∧ vk_R RX4 37 "on" a s ∧ kstr a av n f A s s.heap := by
  have hs := flat_of_before _ hgv
  refine str_of (byt := [111, 110]) (by omega) (hts _ (List.mem_of_getElem? (i := 762) (by decide +kernel))) (hs _ (List.mem_of_getElem? (i := 104) (by decide +kernel))) (hs _ (List.mem_of_getElem? (i := 105) (by decide +kernel))) (hs _ (List.mem_of_getElem? (i := 106) (by decide +kernel))) (hs _ (List.mem_of_getElem? (i := 107) (by decide +kernel))) (fun j hj => ?_) hA
  rcases (show j = 0 ∨ j = 1 by omega) with rfl | rfl
  · exact hs _ (List.mem_of_getElem? (i := 108) (by decide +kernel))
  · exact hs _ (List.mem_of_getElem? (i := 109) (by decide +kernel))
theorem ns_13 {s : State} {b : Nat} (hts : ∀ w ∈ lw_tbl, w.before #[Value.ref b] s = true) (hgv : (Cond.and given_1 narrow_1).before #[Value.ref b] s = true) {A : Nat → Prop} (hA : ∀ a : Nat, a < s.heap.size → ¬ A a) : ∃ (a av n : Nat) (f : Nat → Int32), (n ≤ 10 ∧ n = 2) ∧ vk_R RX4 46 "at" a s ∧ kstr a av n f A s s.heap := by
  have hs := flat_of_before _ hgv
  refine str_of (byt := [97, 116]) (by omega) (hts _ (List.mem_of_getElem? (i := 765) (by decide +kernel))) (hs _ (List.mem_of_getElem? (i := 111) (by decide +kernel))) (hs _ (List.mem_of_getElem? (i := 112) (by decide +kernel))) (hs _ (List.mem_of_getElem? (i := 113) (by decide +kernel))) (hs _ (List.mem_of_getElem? (i := 114) (by decide +kernel))) (fun j hj => ?_) hA
  rcases (show j = 0 ∨ j = 1 by omega) with rfl | rfl
  · exact hs _ (List.mem_of_getElem? (i := 115) (by decide +kernel))
  · exact hs _ (List.mem_of_getElem? (i := 116) (by decide +kernel))
theorem ns_14 {s : State} {b : Nat} (hts : ∀ w ∈ lw_tbl, w.before #[Value.ref b] s = true) (hgv : (Cond.and given_1 narrow_1).before #[Value.ref b] s = true) {A : Nat → Prop} (hA : ∀ a : Nat, a < s.heap.size → ¬ A a) : ∃ (a av n : Nat) (f : Nat → Int32), (n ≤ 10 ∧ n = 5) ∧ vk_R RX4 47 "teeth" a s ∧ kstr a av n f A s s.heap := by
  have hs := flat_of_before _ hgv
  refine str_of (byt := [116, 101, 101, 116, 104]) (by omega) (hts _ (List.mem_of_getElem? (i := 766) (by decide +kernel))) (hs _ (List.mem_of_getElem? (i := 118) (by decide +kernel))) (hs _ (List.mem_of_getElem? (i := 119) (by decide +kernel))) (hs _ (List.mem_of_getElem? (i := 120) (by decide +kernel))) (hs _ (List.mem_of_getElem? (i := 121) (by decide +kernel))) (fun j hj => ?_) hA
  rcases (show j = 0 ∨ j = 1 ∨ j = 2 ∨ j = 3 ∨ j = 4 by omega) with rfl | rfl | rfl | rfl | rfl
  · exact hs _ (List.mem_of_getElem? (i := 122) (by decide +kernel))
  · exact hs _ (List.mem_of_getElem? (i := 123) (by decide +kernel))
  · exact hs _ (List.mem_of_getElem? (i := 124) (by decide +kernel))
  · exact hs _ (List.mem_of_getElem? (i := 125) (by decide +kernel))
  · exact hs _ (List.mem_of_getElem? (i := 126) (by decide +kernel))
theorem ns_15 {s : State} {b : Nat} (hts : ∀ w ∈ lw_tbl, w.before #[Value.ref b] s = true) (hgv : (Cond.and given_1 narrow_1).before #[Value.ref b] s = true) {A : Nat → Prop} (hA : ∀ a : Nat, a < s.heap.size → ¬ A a) : ∃ (a av n : Nat) (f : Nat → Int32), (n ≤ 10 ∧ n = 4) ∧ vk_R RX2 145 "gear" a s ∧ kstr a av n f A s s.heap := by
  have hs := flat_of_before _ hgv
  refine str_of (byt := [103, 101, 97, 114]) (by omega) (hts _ (List.mem_of_getElem? (i := 767) (by decide +kernel))) (hs _ (List.mem_of_getElem? (i := 127) (by decide +kernel))) (hs _ (List.mem_of_getElem? (i := 128) (by decide +kernel))) (hs _ (List.mem_of_getElem? (i := 129) (by decide +kernel))) (hs _ (List.mem_of_getElem? (i := 130) (by decide +kernel))) (fun j hj => ?_) hA
  rcases (show j = 0 ∨ j = 1 ∨ j = 2 ∨ j = 3 by omega) with rfl | rfl | rfl | rfl
  · exact hs _ (List.mem_of_getElem? (i := 131) (by decide +kernel))
  · exact hs _ (List.mem_of_getElem? (i := 132) (by decide +kernel))
  · exact hs _ (List.mem_of_getElem? (i := 133) (by decide +kernel))
  · exact hs _ (List.mem_of_getElem? (i := 134) (by decide +kernel))
theorem ns_16 {s : State} {b : Nat} (hts : ∀ w ∈ lw_tbl, w.before #[Value.ref b] s = true) (hgv : (Cond.and given_1 narrow_1).before #[Value.ref b] s = true) {A : Nat → Prop} (hA : ∀ a : Nat, a < s.heap.size → ¬ A a) : ∃ (a av n : Nat) (f : Nat → Int32), (n ≤ 10 ∧ n = 2) ∧ vk_R RX2 170 "to" a s ∧ kstr a av n f A s s.heap := by
  have hs := flat_of_before _ hgv
  refine str_of (byt := [116, 111]) (by omega) (hts _ (List.mem_of_getElem? (i := 772) (by decide +kernel))) (hs _ (List.mem_of_getElem? (i := 135) (by decide +kernel))) (hs _ (List.mem_of_getElem? (i := 136) (by decide +kernel))) (hs _ (List.mem_of_getElem? (i := 137) (by decide +kernel))) (hs _ (List.mem_of_getElem? (i := 138) (by decide +kernel))) (fun j hj => ?_) hA
  rcases (show j = 0 ∨ j = 1 by omega) with rfl | rfl
  · exact hs _ (List.mem_of_getElem? (i := 139) (by decide +kernel))
  · exact hs _ (List.mem_of_getElem? (i := 140) (by decide +kernel))
theorem ns_17 {s : State} {b : Nat} (hts : ∀ w ∈ lw_tbl, w.before #[Value.ref b] s = true) (hgv : (Cond.and given_1 narrow_1).before #[Value.ref b] s = true) {A : Nat → Prop} (hA : ∀ a : Nat, a < s.heap.size → ¬ A a) : ∃ (a av n : Nat) (f : Nat → Int32), (n ≤ 10 ∧ n = 5) ∧ vk_R RX1 64 "knife" a s ∧ kstr a av n f A s s.heap := by
  have hs := flat_of_before _ hgv
  refine str_of (byt := [107, 110, 105, 102, 101]) (by omega) (hts _ (List.mem_of_getElem? (i := 780) (by decide +kernel))) (hs _ (List.mem_of_getElem? (i := 141) (by decide +kernel))) (hs _ (List.mem_of_getElem? (i := 142) (by decide +kernel))) (hs _ (List.mem_of_getElem? (i := 143) (by decide +kernel))) (hs _ (List.mem_of_getElem? (i := 144) (by decide +kernel))) (fun j hj => ?_) hA
  rcases (show j = 0 ∨ j = 1 ∨ j = 2 ∨ j = 3 ∨ j = 4 by omega) with rfl | rfl | rfl | rfl | rfl
  · exact hs _ (List.mem_of_getElem? (i := 145) (by decide +kernel))
  · exact hs _ (List.mem_of_getElem? (i := 146) (by decide +kernel))
  · exact hs _ (List.mem_of_getElem? (i := 147) (by decide +kernel))
  · exact hs _ (List.mem_of_getElem? (i := 148) (by decide +kernel))
  · exact hs _ (List.mem_of_getElem? (i := 149) (by decide +kernel))
theorem ns_18 {s : State} {b : Nat} (hts : ∀ w ∈ lw_tbl, w.before #[Value.ref b] s = true) (hgv : (Cond.and given_1 narrow_1).before #[Value.ref b] s = true) {A : Nat → Prop} (hA : ∀ a : Nat, a < s.heap.size → ¬ A a) : ∃ (a av n : Nat) (f : Nat → Int32), (n ≤ 10 ∧ n = 6) ∧ vk_R RX1 70 "roller" a s ∧ kstr a av n f A s s.heap := by
  have hs := flat_of_before _ hgv
  refine str_of (byt := [114, 111, 108, 108, 101, 114]) (by omega) (hts _ (List.mem_of_getElem? (i := 782) (by decide +kernel))) (hs _ (List.mem_of_getElem? (i := 150) (by decide +kernel))) (hs _ (List.mem_of_getElem? (i := 151) (by decide +kernel))) (hs _ (List.mem_of_getElem? (i := 152) (by decide +kernel))) (hs _ (List.mem_of_getElem? (i := 153) (by decide +kernel))) (fun j hj => ?_) hA
  rcases (show j = 0 ∨ j = 1 ∨ j = 2 ∨ j = 3 ∨ j = 4 ∨ j = 5 by omega) with rfl | rfl | rfl | rfl | rfl | rfl
  · exact hs _ (List.mem_of_getElem? (i := 154) (by decide +kernel))
  · exact hs _ (List.mem_of_getElem? (i := 155) (by decide +kernel))
  · exact hs _ (List.mem_of_getElem? (i := 156) (by decide +kernel))
  · exact hs _ (List.mem_of_getElem? (i := 157) (by decide +kernel))
  · exact hs _ (List.mem_of_getElem? (i := 158) (by decide +kernel))
  · exact hs _ (List.mem_of_getElem? (i := 159) (by decide +kernel))
theorem ns_19 {s : State} {b : Nat} (hts : ∀ w ∈ lw_tbl, w.before #[Value.ref b] s = true) (hgv : (Cond.and given_1 narrow_1).before #[Value.ref b] s = true) {A : Nat → Prop} (hA : ∀ a : Nat, a < s.heap.size → ¬ A a) : ∃ (a av n : Nat) (f : Nat → Int32), (n ≤ 10 ∧ n = 4) ∧ vk_R RX1 72 "flat" a s ∧ kstr a av n f A s s.heap := by
  have hs := flat_of_before _ hgv
  refine str_of (byt := [102, 108, 97, 116]) (by omega) (hts _ (List.mem_of_getElem? (i := 783) (by decide +kernel))) (hs _ (List.mem_of_getElem? (i := 160) (by decide +kernel))) (hs _ (List.mem_of_getElem? (i := 161) (by decide +kernel))) (hs _ (List.mem_of_getElem? (i := 162) (by decide +kernel))) (hs _ (List.mem_of_getElem? (i := 163) (by decide +kernel))) (fun j hj => ?_) hA
  rcases (show j = 0 ∨ j = 1 ∨ j = 2 ∨ j = 3 by omega) with rfl | rfl | rfl | rfl
  · exact hs _ (List.mem_of_getElem? (i := 164) (by decide +kernel))
  · exact hs _ (List.mem_of_getElem? (i := 165) (by decide +kernel))
  · exact hs _ (List.mem_of_getElem? (i := 166) (by decide +kernel))
  · exact hs _ (List.mem_of_getElem? (i := 167) (by decide +kernel))
theorem ns_20 {s : State} {b : Nat} (hts : ∀ w ∈ lw_tbl, w.before #[Value.ref b] s = true) (hgv : (Cond.and given_1 narrow_1).before #[Value.ref b] s = true) {A : Nat → Prop} (hA : ∀ a : Nat, a < s.heap.size → ¬ A a) : ∃ (a av n : Nat) (f : Nat → Int32), (n ≤ 10 ∧ n = 5) ∧ vk_R RX1 74 "lever" a s ∧ kstr a av n f A s s.heap := by
  have hs := flat_of_before _ hgv
  refine str_of (byt := [108, 101, 118, 101, 114]) (by omega) (hts _ (List.mem_of_getElem? (i := 784) (by decide +kernel))) (hs _ (List.mem_of_getElem? (i := 168) (by decide +kernel))) (hs _ (List.mem_of_getElem? (i := 169) (by decide +kernel))) (hs _ (List.mem_of_getElem? (i := 170) (by decide +kernel))) (hs _ (List.mem_of_getElem? (i := 171) (by decide +kernel))) (fun j hj => ?_) hA
  rcases (show j = 0 ∨ j = 1 ∨ j = 2 ∨ j = 3 ∨ j = 4 by omega) with rfl | rfl | rfl | rfl | rfl
  · exact hs _ (List.mem_of_getElem? (i := 172) (by decide +kernel))
  · exact hs _ (List.mem_of_getElem? (i := 173) (by decide +kernel))
  · exact hs _ (List.mem_of_getElem? (i := 174) (by decide +kernel))
  · exact hs _ (List.mem_of_getElem? (i := 175) (by decide +kernel))
  · exact hs _ (List.mem_of_getElem? (i := 176) (by decide +kernel))
theorem ns_21 {s : State} {b : Nat} (hts : ∀ w ∈ lw_tbl, w.before #[Value.ref b] s = true) (hgv : (Cond.and given_1 narrow_1).before #[Value.ref b] s = true) {A : Nat → Prop} (hA : ∀ a : Nat, a < s.heap.size → ¬ A a) : ∃ (a av n : Nat) (f : Nat → Int32), (n ≤ 10 ∧ n = 2) ∧ vk_R RX1 80 "on" a s ∧ kstr a av n f A s s.heap := by
  have hs := flat_of_before _ hgv
  refine str_of (byt := [111, 110]) (by omega) (hts _ (List.mem_of_getElem? (i := 791) (by decide +kernel))) (hs _ (List.mem_of_getElem? (i := 177) (by decide +kernel))) (hs _ (List.mem_of_getElem? (i := 178) (by decide +kernel))) (hs _ (List.mem_of_getElem? (i := 179) (by decide +kernel))) (hs _ (List.mem_of_getElem? (i := 180) (by decide +kernel))) (fun j hj => ?_) hA
  rcases (show j = 0 ∨ j = 1 by omega) with rfl | rfl
  · exact hs _ (List.mem_of_getElem? (i := 181) (by decide +kernel))
  · exact hs _ (List.mem_of_getElem? (i := 182) (by decide +kernel))
theorem ns_22 {s : State} {b : Nat} (hts : ∀ w ∈ lw_tbl, w.before #[Value.ref b] s = true) (hgv : (Cond.and given_1 narrow_1).before #[Value.ref b] s = true) {A : Nat → Prop} (hA : ∀ a : Nat, a < s.heap.size → ¬ A a) : ∃ (a av n : Nat) (f : Nat → Int32), (n ≤ 10 ∧ n = 4) ∧ vk_R RX1 87 "over" a s ∧ kstr a av n f A s s.heap := by
  have hs := flat_of_before _ hgv
  refine str_of (byt := [111, 118, 101, 114]) (by omega) (hts _ (List.mem_of_getElem? (i := 794) (by decide +kernel))) (hs _ (List.mem_of_getElem? (i := 185) (by decide +kernel))) (hs _ (List.mem_of_getElem? (i := 186) (by decide +kernel))) (hs _ (List.mem_of_getElem? (i := 187) (by decide +kernel))) (hs _ (List.mem_of_getElem? (i := 188) (by decide +kernel))) (fun j hj => ?_) hA
  rcases (show j = 0 ∨ j = 1 ∨ j = 2 ∨ j = 3 by omega) with rfl | rfl | rfl | rfl
  · exact hs _ (List.mem_of_getElem? (i := 189) (by decide +kernel))
  · exact hs _ (List.mem_of_getElem? (i := 190) (by decide +kernel))
  · exact hs _ (List.mem_of_getElem? (i := 191) (by decide +kernel))
  · exact hs _ (List.mem_of_getElem? (i := 192) (by decide +kernel))
theorem ns_23 {s : State} {b : Nat} (hts : ∀ w ∈ lw_tbl, w.before #[Value.ref b] s = true) (hgv : (Cond.and given_1 narrow_1).before #[Value.ref b] s = true) {A : Nat → Prop} (hA : ∀ a : Nat, a < s.heap.size → ¬ A a) : ∃ (a av n : Nat) (f : Nat → Int32), (n ≤ 10 ∧ n = 6) ∧ vk_R RX1 85 "spring" a s ∧ kstr a av n f A s s.heap := by
  have hs := flat_of_before _ hgv
  refine str_of (byt := [115, 112, 114, 105, 110, 103]) (by omega) (hts _ (List.mem_of_getElem? (i := 799) (by decide +kernel))) (hs _ (List.mem_of_getElem? (i := 193) (by decide +kernel))) (hs _ (List.mem_of_getElem? (i := 194) (by decide +kernel))) (hs _ (List.mem_of_getElem? (i := 195) (by decide +kernel))) (hs _ (List.mem_of_getElem? (i := 196) (by decide +kernel))) (fun j hj => ?_) hA
  rcases (show j = 0 ∨ j = 1 ∨ j = 2 ∨ j = 3 ∨ j = 4 ∨ j = 5 by omega) with rfl | rfl | rfl | rfl | rfl | rfl
  · exact hs _ (List.mem_of_getElem? (i := 197) (by decide +kernel))
  · exact hs _ (List.mem_of_getElem? (i := 198) (by decide +kernel))
  · exact hs _ (List.mem_of_getElem? (i := 199) (by decide +kernel))
  · exact hs _ (List.mem_of_getElem? (i := 200) (by decide +kernel))
  · exact hs _ (List.mem_of_getElem? (i := 201) (by decide +kernel))
  · exact hs _ (List.mem_of_getElem? (i := 202) (by decide +kernel))
theorem ns_24 {s : State} {b : Nat} (hts : ∀ w ∈ lw_tbl, w.before #[Value.ref b] s = true) (hgv : (Cond.and given_1 narrow_1).before #[Value.ref b] s = true) {A : Nat → Prop} (hA : ∀ a : Nat, a < s.heap.size → ¬ A a) : ∃ (a av n : Nat) (f : Nat → Int32), (n ≤ 10 ∧ n = 3) ∧ vk_R RX1 86 "lag" a s ∧ kstr a av n f A s s.heap := by
  have hs := flat_of_before _ hgv
  refine str_of (byt := [108, 97, 103]) (by omega) (hts _ (List.mem_of_getElem? (i := 800) (by decide +kernel))) (hs _ (List.mem_of_getElem? (i := 203) (by decide +kernel))) (hs _ (List.mem_of_getElem? (i := 204) (by decide +kernel))) (hs _ (List.mem_of_getElem? (i := 205) (by decide +kernel))) (hs _ (List.mem_of_getElem? (i := 206) (by decide +kernel))) (fun j hj => ?_) hA
  rcases (show j = 0 ∨ j = 1 ∨ j = 2 by omega) with rfl | rfl | rfl
  · exact hs _ (List.mem_of_getElem? (i := 207) (by decide +kernel))
  · exact hs _ (List.mem_of_getElem? (i := 208) (by decide +kernel))
  · exact hs _ (List.mem_of_getElem? (i := 209) (by decide +kernel))
theorem ns_25 {s : State} {b : Nat} (hts : ∀ w ∈ lw_tbl, w.before #[Value.ref b] s = true) (hgv : (Cond.and given_1 narrow_1).before #[Value.ref b] s = true) {A : Nat → Prop} (hA : ∀ a : Nat, a < s.heap.size → ¬ A a) : ∃ (a av n : Nat) (f : Nat → Int32), (n ≤ 10 ∧ n = 2) ∧ vk_R RX5 52 "up" a s ∧ kstr a av n f A s s.heap := by
  have hs := flat_of_before _ hgv
  refine str_of (byt := [117, 112]) (by omega) (hts _ (List.mem_of_getElem? (i := 919) (by decide +kernel))) (hs _ (List.mem_of_getElem? (i := 210) (by decide +kernel))) (hs _ (List.mem_of_getElem? (i := 211) (by decide +kernel))) (hs _ (List.mem_of_getElem? (i := 212) (by decide +kernel))) (hs _ (List.mem_of_getElem? (i := 213) (by decide +kernel))) (fun j hj => ?_) hA
  rcases (show j = 0 ∨ j = 1 by omega) with rfl | rfl
  · exact hs _ (List.mem_of_getElem? (i := 214) (by decide +kernel))
  · exact hs _ (List.mem_of_getElem? (i := 215) (by decide +kernel))
theorem ns_26 {s : State} {b : Nat} (hts : ∀ w ∈ lw_tbl, w.before #[Value.ref b] s = true) (hgv : (Cond.and given_1 narrow_1).before #[Value.ref b] s = true) {A : Nat → Prop} (hA : ∀ a : Nat, a < s.heap.size → ¬ A a) : ∃ (a av n : Nat) (f : Nat → Int32), (n ≤ 10 ∧ n = 4) ∧ vk_R RX5 62 "down" a s ∧ kstr a av n f A s s.heap := by
  have hs := flat_of_before _ hgv
  refine str_of (byt := [100, 111, 119, 110]) (by omega) (hts _ (List.mem_of_getElem? (i := 932) (by decide +kernel))) (hs _ (List.mem_of_getElem? (i := 216) (by decide +kernel))) (hs _ (List.mem_of_getElem? (i := 217) (by decide +kernel))) (hs _ (List.mem_of_getElem? (i := 218) (by decide +kernel))) (hs _ (List.mem_of_getElem? (i := 219) (by decide +kernel))) (fun j hj => ?_) hA
  rcases (show j = 0 ∨ j = 1 ∨ j = 2 ∨ j = 3 by omega) with rfl | rfl | rfl | rfl
  · exact hs _ (List.mem_of_getElem? (i := 220) (by decide +kernel))
  · exact hs _ (List.mem_of_getElem? (i := 221) (by decide +kernel))
  · exact hs _ (List.mem_of_getElem? (i := 222) (by decide +kernel))
  · exact hs _ (List.mem_of_getElem? (i := 223) (by decide +kernel))
theorem ns_27 {s : State} {b : Nat} (hts : ∀ w ∈ lw_tbl, w.before #[Value.ref b] s = true) (hgv : (Cond.and given_1 narrow_1).before #[Value.ref b] s = true) {A : Nat → Prop} (hA : ∀ a : Nat, a < s.heap.size → ¬ A a) : ∃ (a av n : Nat) (f : Nat → Int32), (n ≤ 10 ∧ n = 4) ∧ vk_R RX5 64 "hold" a s ∧ kstr a av n f A s s.heap := by
  have hs := flat_of_before _ hgv
  refine str_of (byt := [104, 111, 108, 100]) (by omega) (hts _ (List.mem_of_getElem? (i := 933) (by decide +kernel))) (hs _ (List.mem_of_getElem? (i := 224) (by decide +kernel))) (hs _ (List.mem_of_getElem? (i := 225) (by decide +kernel))) (hs _ (List.mem_of_getElem? (i := 226) (by decide +kernel))) (hs _ (List.mem_of_getElem? (i := 227) (by decide +kernel))) (fun j hj => ?_) hA
  rcases (show j = 0 ∨ j = 1 ∨ j = 2 ∨ j = 3 by omega) with rfl | rfl | rfl | rfl
  · exact hs _ (List.mem_of_getElem? (i := 228) (by decide +kernel))
  · exact hs _ (List.mem_of_getElem? (i := 229) (by decide +kernel))
  · exact hs _ (List.mem_of_getElem? (i := 230) (by decide +kernel))
  · exact hs _ (List.mem_of_getElem? (i := 231) (by decide +kernel))
theorem ns_28 {s : State} {b : Nat} (hts : ∀ w ∈ lw_tbl, w.before #[Value.ref b] s = true) (hgv : (Cond.and given_1 narrow_1).before #[Value.ref b] s = true) {A : Nat → Prop} (hA : ∀ a : Nat, a < s.heap.size → ¬ A a) : ∃ (a av n : Nat) (f : Nat → Int32), (n ≤ 10 ∧ n = 5) ∧ vk_R RX5 66 "times" a s ∧ kstr a av n f A s s.heap := by
  have hs := flat_of_before _ hgv
  refine str_of (byt := [116, 105, 109, 101, 115]) (by omega) (hts _ (List.mem_of_getElem? (i := 934) (by decide +kernel))) (hs _ (List.mem_of_getElem? (i := 232) (by decide +kernel))) (hs _ (List.mem_of_getElem? (i := 233) (by decide +kernel))) (hs _ (List.mem_of_getElem? (i := 234) (by decide +kernel))) (hs _ (List.mem_of_getElem? (i := 235) (by decide +kernel))) (fun j hj => ?_) hA
  rcases (show j = 0 ∨ j = 1 ∨ j = 2 ∨ j = 3 ∨ j = 4 by omega) with rfl | rfl | rfl | rfl | rfl
  · exact hs _ (List.mem_of_getElem? (i := 236) (by decide +kernel))
  · exact hs _ (List.mem_of_getElem? (i := 237) (by decide +kernel))
  · exact hs _ (List.mem_of_getElem? (i := 238) (by decide +kernel))
  · exact hs _ (List.mem_of_getElem? (i := 239) (by decide +kernel))
  · exact hs _ (List.mem_of_getElem? (i := 240) (by decide +kernel))
theorem ns_29 {s : State} {b : Nat} (hts : ∀ w ∈ lw_tbl, w.before #[Value.ref b] s = true) (hgv : (Cond.and given_1 narrow_1).before #[Value.ref b] s = true) {A : Nat → Prop} (hA : ∀ a : Nat, a < s.heap.size → ¬ A a) : ∃ (a av n : Nat) (f : Nat → Int32), (n ≤ 10 ∧ n = 2) ∧ vk_R RX5 79 "if" a s ∧ kstr a av n f A s s.heap := by
  have hs := flat_of_before _ hgv
  refine str_of (byt := [105, 102]) (by omega) (hts _ (List.mem_of_getElem? (i := 941) (by decide +kernel))) (hs _ (List.mem_of_getElem? (i := 241) (by decide +kernel))) (hs _ (List.mem_of_getElem? (i := 242) (by decide +kernel))) (hs _ (List.mem_of_getElem? (i := 243) (by decide +kernel))) (hs _ (List.mem_of_getElem? (i := 244) (by decide +kernel))) (fun j hj => ?_) hA
  rcases (show j = 0 ∨ j = 1 by omega) with rfl | rfl
  · exact hs _ (List.mem_of_getElem? (i := 245) (by decide +kernel))
  · exact hs _ (List.mem_of_getElem? (i := 246) (by decide +kernel))
theorem ns_30 {s : State} {b : Nat} (hts : ∀ w ∈ lw_tbl, w.before #[Value.ref b] s = true) (hgv : (Cond.and given_1 narrow_1).before #[Value.ref b] s = true) {A : Nat → Prop} (hA : ∀ a : Nat, a < s.heap.size → ¬ A a) : ∃ (a av n : Nat) (f : Nat → Int32), (n ≤ 10 ∧ n = 5) ∧ vk_R RX5 81 "above" a s ∧ kstr a av n f A s s.heap := by
  have hs := flat_of_before _ hgv
  refine str_of (byt := [97, 98, 111, 118, 101]) (by omega) (hts _ (List.mem_of_getElem? (i := 942) (by decide +kernel))) (hs _ (List.mem_of_getElem? (i := 247) (by decide +kernel))) (hs _ (List.mem_of_getElem? (i := 248) (by decide +kernel))) (hs _ (List.mem_of_getElem? (i := 249) (by decide +kernel))) (hs _ (List.mem_of_getElem? (i := 250) (by decide +kernel))) (fun j hj => ?_) hA
  rcases (show j = 0 ∨ j = 1 ∨ j = 2 ∨ j = 3 ∨ j = 4 by omega) with rfl | rfl | rfl | rfl | rfl
  · exact hs _ (List.mem_of_getElem? (i := 251) (by decide +kernel))
  · exact hs _ (List.mem_of_getElem? (i := 252) (by decide +kernel))
  · exact hs _ (List.mem_of_getElem? (i := 253) (by decide +kernel))
  · exact hs _ (List.mem_of_getElem? (i := 254) (by decide +kernel))
  · exact hs _ (List.mem_of_getElem? (i := 255) (by decide +kernel))
theorem ns_31 {s : State} {b : Nat} (hts : ∀ w ∈ lw_tbl, w.before #[Value.ref b] s = true) (hgv : (Cond.and given_1 narrow_1).before #[Value.ref b] s = true) {A : Nat → Prop} (hA : ∀ a : Nat, a < s.heap.size → ¬ A a) : ∃ (a av n : Nat) (f : Nat → Int32), (n ≤ 10 ∧ n = 4) ∧ vk_R RX12 177 "drum" a s ∧ kstr a av n f A s s.heap := by
  have hs := flat_of_before _ hgv
  refine str_of (byt := [100, 114, 117, 109]) (by omega) (hts _ (List.mem_of_getElem? (i := 1621) (by decide +kernel))) (hs _ (List.mem_of_getElem? (i := 256) (by decide +kernel))) (hs _ (List.mem_of_getElem? (i := 257) (by decide +kernel))) (hs _ (List.mem_of_getElem? (i := 258) (by decide +kernel))) (hs _ (List.mem_of_getElem? (i := 259) (by decide +kernel))) (fun j hj => ?_) hA
  rcases (show j = 0 ∨ j = 1 ∨ j = 2 ∨ j = 3 by omega) with rfl | rfl | rfl | rfl
  · exact hs _ (List.mem_of_getElem? (i := 260) (by decide +kernel))
  · exact hs _ (List.mem_of_getElem? (i := 261) (by decide +kernel))
  · exact hs _ (List.mem_of_getElem? (i := 262) (by decide +kernel))
  · exact hs _ (List.mem_of_getElem? (i := 263) (by decide +kernel))
theorem ns_32 {s : State} {b : Nat} (hts : ∀ w ∈ lw_tbl, w.before #[Value.ref b] s = true) (hgv : (Cond.and given_1 narrow_1).before #[Value.ref b] s = true) {A : Nat → Prop} (hA : ∀ a : Nat, a < s.heap.size → ¬ A a) : ∃ (a av n : Nat) (f : Nat → Int32), (n ≤ 10 ∧ n = 5) ∧ vk_R RX12 179 "steps" a s ∧ kstr a av n f A s s.heap := by
  have hs := flat_of_before _ hgv
  refine str_of (byt := [115, 116, 101, 112, 115]) (by omega) (hts _ (List.mem_of_getElem? (i := 1640) (by decide +kernel))) (hs _ (List.mem_of_getElem? (i := 265) (by decide +kernel))) (hs _ (List.mem_of_getElem? (i := 266) (by decide +kernel))) (hs _ (List.mem_of_getElem? (i := 267) (by decide +kernel))) (hs _ (List.mem_of_getElem? (i := 268) (by decide +kernel))) (fun j hj => ?_) hA
  rcases (show j = 0 ∨ j = 1 ∨ j = 2 ∨ j = 3 ∨ j = 4 by omega) with rfl | rfl | rfl | rfl | rfl
  · exact hs _ (List.mem_of_getElem? (i := 269) (by decide +kernel))
  · exact hs _ (List.mem_of_getElem? (i := 270) (by decide +kernel))
  · exact hs _ (List.mem_of_getElem? (i := 271) (by decide +kernel))
  · exact hs _ (List.mem_of_getElem? (i := 272) (by decide +kernel))
  · exact hs _ (List.mem_of_getElem? (i := 273) (by decide +kernel))
theorem ns_33 {s : State} {b : Nat} (hts : ∀ w ∈ lw_tbl, w.before #[Value.ref b] s = true) (hgv : (Cond.and given_1 narrow_1).before #[Value.ref b] s = true) {A : Nat → Prop} (hA : ∀ a : Nat, a < s.heap.size → ¬ A a) : ∃ (a av n : Nat) (f : Nat → Int32), (n ≤ 10 ∧ n = 3) ∧ vk_R RX12 185 "jam" a s ∧ kstr a av n f A s s.heap := by
  have hs := flat_of_before _ hgv
  refine str_of (byt := [106, 97, 109]) (by omega) (hts _ (List.mem_of_getElem? (i := 1649) (by decide +kernel))) (hs _ (List.mem_of_getElem? (i := 275) (by decide +kernel))) (hs _ (List.mem_of_getElem? (i := 276) (by decide +kernel))) (hs _ (List.mem_of_getElem? (i := 277) (by decide +kernel))) (hs _ (List.mem_of_getElem? (i := 278) (by decide +kernel))) (fun j hj => ?_) hA
  rcases (show j = 0 ∨ j = 1 ∨ j = 2 by omega) with rfl | rfl | rfl
  · exact hs _ (List.mem_of_getElem? (i := 279) (by decide +kernel))
  · exact hs _ (List.mem_of_getElem? (i := 280) (by decide +kernel))
  · exact hs _ (List.mem_of_getElem? (i := 281) (by decide +kernel))
theorem ns_34 {s : State} {b : Nat} (hts : ∀ w ∈ lw_tbl, w.before #[Value.ref b] s = true) (hgv : (Cond.and given_1 narrow_1).before #[Value.ref b] s = true) {A : Nat → Prop} (hA : ∀ a : Nat, a < s.heap.size → ¬ A a) : ∃ (a av n : Nat) (f : Nat → Int32), (n ≤ 10 ∧ n = 5) ∧ vk_R RX12 187 "slack" a s ∧ kstr a av n f A s s.heap := by
  have hs := flat_of_before _ hgv
  refine str_of (byt := [115, 108, 97, 99, 107]) (by omega) (hts _ (List.mem_of_getElem? (i := 1650) (by decide +kernel))) (hs _ (List.mem_of_getElem? (i := 283) (by decide +kernel))) (hs _ (List.mem_of_getElem? (i := 284) (by decide +kernel))) (hs _ (List.mem_of_getElem? (i := 285) (by decide +kernel))) (hs _ (List.mem_of_getElem? (i := 286) (by decide +kernel))) (fun j hj => ?_) hA
  rcases (show j = 0 ∨ j = 1 ∨ j = 2 ∨ j = 3 ∨ j = 4 by omega) with rfl | rfl | rfl | rfl | rfl
  · exact hs _ (List.mem_of_getElem? (i := 287) (by decide +kernel))
  · exact hs _ (List.mem_of_getElem? (i := 288) (by decide +kernel))
  · exact hs _ (List.mem_of_getElem? (i := 289) (by decide +kernel))
  · exact hs _ (List.mem_of_getElem? (i := 290) (by decide +kernel))
  · exact hs _ (List.mem_of_getElem? (i := 291) (by decide +kernel))
theorem ns_35 {s : State} {b : Nat} (hts : ∀ w ∈ lw_tbl, w.before #[Value.ref b] s = true) (hgv : (Cond.and given_1 narrow_1).before #[Value.ref b] s = true) {A : Nat → Prop} (hA : ∀ a : Nat, a < s.heap.size → ¬ A a) : ∃ (a av n : Nat) (f : Nat → Int32), (n ≤ 10 ∧ n = 5) ∧ vk_R RX12 206 "knife" a s ∧ kstr a av n f A s s.heap := by
  have hs := flat_of_before _ hgv
  refine str_of (byt := [107, 110, 105, 102, 101]) (by omega) (hts _ (List.mem_of_getElem? (i := 1659) (by decide +kernel))) (hs _ (List.mem_of_getElem? (i := 293) (by decide +kernel))) (hs _ (List.mem_of_getElem? (i := 294) (by decide +kernel))) (hs _ (List.mem_of_getElem? (i := 295) (by decide +kernel))) (hs _ (List.mem_of_getElem? (i := 296) (by decide +kernel))) (fun j hj => ?_) hA
  rcases (show j = 0 ∨ j = 1 ∨ j = 2 ∨ j = 3 ∨ j = 4 by omega) with rfl | rfl | rfl | rfl | rfl
  · exact hs _ (List.mem_of_getElem? (i := 297) (by decide +kernel))
  · exact hs _ (List.mem_of_getElem? (i := 298) (by decide +kernel))
  · exact hs _ (List.mem_of_getElem? (i := 299) (by decide +kernel))
  · exact hs _ (List.mem_of_getElem? (i := 300) (by decide +kernel))
  · exact hs _ (List.mem_of_getElem? (i := 301) (by decide +kernel))
theorem ns_36 {s : State} {b : Nat} (hts : ∀ w ∈ lw_tbl, w.before #[Value.ref b] s = true) (hgv : (Cond.and given_1 narrow_1).before #[Value.ref b] s = true) {A : Nat → Prop} (hA : ∀ a : Nat, a < s.heap.size → ¬ A a) : ∃ (a av n : Nat) (f : Nat → Int32), (n ≤ 10 ∧ n = 6) ∧ vk_R RX12 208 "roller" a s ∧ kstr a av n f A s s.heap := by
  have hs := flat_of_before _ hgv
  refine str_of (byt := [114, 111, 108, 108, 101, 114]) (by omega) (hts _ (List.mem_of_getElem? (i := 1660) (by decide +kernel))) (hs _ (List.mem_of_getElem? (i := 303) (by decide +kernel))) (hs _ (List.mem_of_getElem? (i := 304) (by decide +kernel))) (hs _ (List.mem_of_getElem? (i := 305) (by decide +kernel))) (hs _ (List.mem_of_getElem? (i := 306) (by decide +kernel))) (fun j hj => ?_) hA
  rcases (show j = 0 ∨ j = 1 ∨ j = 2 ∨ j = 3 ∨ j = 4 ∨ j = 5 by omega) with rfl | rfl | rfl | rfl | rfl | rfl
  · exact hs _ (List.mem_of_getElem? (i := 307) (by decide +kernel))
  · exact hs _ (List.mem_of_getElem? (i := 308) (by decide +kernel))
  · exact hs _ (List.mem_of_getElem? (i := 309) (by decide +kernel))
  · exact hs _ (List.mem_of_getElem? (i := 310) (by decide +kernel))
  · exact hs _ (List.mem_of_getElem? (i := 311) (by decide +kernel))
  · exact hs _ (List.mem_of_getElem? (i := 312) (by decide +kernel))
theorem ns_37 {s : State} {b : Nat} (hts : ∀ w ∈ lw_tbl, w.before #[Value.ref b] s = true) (hgv : (Cond.and given_1 narrow_1).before #[Value.ref b] s = true) {A : Nat → Prop} (hA : ∀ a : Nat, a < s.heap.size → ¬ A a) : ∃ (a av n : Nat) (f : Nat → Int32), (n ≤ 10 ∧ n = 4) ∧ vk_R RX12 210 "flat" a s ∧ kstr a av n f A s s.heap := by
  have hs := flat_of_before _ hgv
  refine str_of (byt := [102, 108, 97, 116]) (by omega) (hts _ (List.mem_of_getElem? (i := 1661) (by decide +kernel))) (hs _ (List.mem_of_getElem? (i := 314) (by decide +kernel))) (hs _ (List.mem_of_getElem? (i := 315) (by decide +kernel))) (hs _ (List.mem_of_getElem? (i := 316) (by decide +kernel))) (hs _ (List.mem_of_getElem? (i := 317) (by decide +kernel))) (fun j hj => ?_) hA
  rcases (show j = 0 ∨ j = 1 ∨ j = 2 ∨ j = 3 by omega) with rfl | rfl | rfl | rfl
  · exact hs _ (List.mem_of_getElem? (i := 318) (by decide +kernel))
  · exact hs _ (List.mem_of_getElem? (i := 319) (by decide +kernel))
  · exact hs _ (List.mem_of_getElem? (i := 320) (by decide +kernel))
  · exact hs _ (List.mem_of_getElem? (i := 321) (by decide +kernel))
theorem ns_38 {s : State} {b : Nat} (hts : ∀ w ∈ lw_tbl, w.before #[Value.ref b] s = true) (hgv : (Cond.and given_1 narrow_1).before #[Value.ref b] s = true) {A : Nat → Prop} (hA : ∀ a : Nat, a < s.heap.size → ¬ A a) : ∃ (a av n : Nat) (f : Nat → Int32), (n ≤ 10 ∧ n = 5) ∧ vk_R RX12 212 "lever" a s ∧ kstr a av n f A s s.heap := by
  have hs := flat_of_before _ hgv
  refine str_of (byt := [108, 101, 118, 101, 114]) (by omega) (hts _ (List.mem_of_getElem? (i := 1662) (by decide +kernel))) (hs _ (List.mem_of_getElem? (i := 323) (by decide +kernel))) (hs _ (List.mem_of_getElem? (i := 324) (by decide +kernel))) (hs _ (List.mem_of_getElem? (i := 325) (by decide +kernel))) (hs _ (List.mem_of_getElem? (i := 326) (by decide +kernel))) (fun j hj => ?_) hA
  rcases (show j = 0 ∨ j = 1 ∨ j = 2 ∨ j = 3 ∨ j = 4 by omega) with rfl | rfl | rfl | rfl | rfl
  · exact hs _ (List.mem_of_getElem? (i := 327) (by decide +kernel))
  · exact hs _ (List.mem_of_getElem? (i := 328) (by decide +kernel))
  · exact hs _ (List.mem_of_getElem? (i := 329) (by decide +kernel))
  · exact hs _ (List.mem_of_getElem? (i := 330) (by decide +kernel))
  · exact hs _ (List.mem_of_getElem? (i := 331) (by decide +kernel))
theorem ns_39 {s : State} {b : Nat} (hts : ∀ w ∈ lw_tbl, w.before #[Value.ref b] s = true) (hgv : (Cond.and given_1 narrow_1).before #[Value.ref b] s = true) {A : Nat → Prop} (hA : ∀ a : Nat, a < s.heap.size → ¬ A a) : ∃ (a av n : Nat) (f : Nat → Int32), (n ≤ 10 ∧ n = 5) ∧ vk_R RX12 217 "track" a s ∧ kstr a av n f A s s.heap := by
  have hs := flat_of_before _ hgv
  refine str_of (byt := [116, 114, 97, 99, 107]) (by omega) (hts _ (List.mem_of_getElem? (i := 1663) (by decide +kernel))) (hs _ (List.mem_of_getElem? (i := 333) (by decide +kernel))) (hs _ (List.mem_of_getElem? (i := 334) (by decide +kernel))) (hs _ (List.mem_of_getElem? (i := 335) (by decide +kernel))) (hs _ (List.mem_of_getElem? (i := 336) (by decide +kernel))) (fun j hj => ?_) hA
  rcases (show j = 0 ∨ j = 1 ∨ j = 2 ∨ j = 3 ∨ j = 4 by omega) with rfl | rfl | rfl | rfl | rfl
  · exact hs _ (List.mem_of_getElem? (i := 337) (by decide +kernel))
  · exact hs _ (List.mem_of_getElem? (i := 338) (by decide +kernel))
  · exact hs _ (List.mem_of_getElem? (i := 339) (by decide +kernel))
  · exact hs _ (List.mem_of_getElem? (i := 340) (by decide +kernel))
  · exact hs _ (List.mem_of_getElem? (i := 341) (by decide +kernel))
theorem ns_40 {s : State} {b : Nat} (hts : ∀ w ∈ lw_tbl, w.before #[Value.ref b] s = true) (hgv : (Cond.and given_1 narrow_1).before #[Value.ref b] s = true) {A : Nat → Prop} (hA : ∀ a : Nat, a < s.heap.size → ¬ A a) : ∃ (a av n : Nat) (f : Nat → Int32), (n ≤ 10 ∧ n = 4) ∧ vk_R RX12 219 "nose" a s ∧ kstr a av n f A s s.heap := by
  have hs := flat_of_before _ hgv
  refine str_of (byt := [110, 111, 115, 101]) (by omega) (hts _ (List.mem_of_getElem? (i := 1664) (by decide +kernel))) (hs _ (List.mem_of_getElem? (i := 343) (by decide +kernel))) (hs _ (List.mem_of_getElem? (i := 344) (by decide +kernel))) (hs _ (List.mem_of_getElem? (i := 345) (by decide +kernel))) (hs _ (List.mem_of_getElem? (i := 346) (by decide +kernel))) (fun j hj => ?_) hA
  rcases (show j = 0 ∨ j = 1 ∨ j = 2 ∨ j = 3 by omega) with rfl | rfl | rfl | rfl
  · exact hs _ (List.mem_of_getElem? (i := 347) (by decide +kernel))
  · exact hs _ (List.mem_of_getElem? (i := 348) (by decide +kernel))
  · exact hs _ (List.mem_of_getElem? (i := 349) (by decide +kernel))
  · exact hs _ (List.mem_of_getElem? (i := 350) (by decide +kernel))
theorem ns_41 {s : State} {b : Nat} (hts : ∀ w ∈ lw_tbl, w.before #[Value.ref b] s = true) (hgv : (Cond.and given_1 narrow_1).before #[Value.ref b] s = true) {A : Nat → Prop} (hA : ∀ a : Nat, a < s.heap.size → ¬ A a) : ∃ (a av n : Nat) (f : Nat → Int32), (n ≤ 10 ∧ n = 4) ∧ vk_R RX12 221 "pawl" a s ∧ kstr a av n f A s s.heap := by
  have hs := flat_of_before _ hgv
  refine str_of (byt := [112, 97, 119, 108]) (by omega) (hts _ (List.mem_of_getElem? (i := 1665) (by decide +kernel))) (hs _ (List.mem_of_getElem? (i := 352) (by decide +kernel))) (hs _ (List.mem_of_getElem? (i := 353) (by decide +kernel))) (hs _ (List.mem_of_getElem? (i := 354) (by decide +kernel))) (hs _ (List.mem_of_getElem? (i := 355) (by decide +kernel))) (fun j hj => ?_) hA
  rcases (show j = 0 ∨ j = 1 ∨ j = 2 ∨ j = 3 by omega) with rfl | rfl | rfl | rfl
  · exact hs _ (List.mem_of_getElem? (i := 356) (by decide +kernel))
  · exact hs _ (List.mem_of_getElem? (i := 357) (by decide +kernel))
  · exact hs _ (List.mem_of_getElem? (i := 358) (by decide +kernel))
  · exact hs _ (List.mem_of_getElem? (i := 359) (by decide +kernel))
theorem ns_42 {s : State} {b : Nat} (hts : ∀ w ∈ lw_tbl, w.before #[Value.ref b] s = true) (hgv : (Cond.and given_1 narrow_1).before #[Value.ref b] s = true) {A : Nat → Prop} (hA : ∀ a : Nat, a < s.heap.size → ¬ A a) : ∃ (a av n : Nat) (f : Nat → Int32), (n ≤ 10 ∧ n = 4) ∧ vk_R RX12 223 "gear" a s ∧ kstr a av n f A s s.heap := by
  have hs := flat_of_before _ hgv
  refine str_of (byt := [103, 101, 97, 114]) (by omega) (hts _ (List.mem_of_getElem? (i := 1666) (by decide +kernel))) (hs _ (List.mem_of_getElem? (i := 361) (by decide +kernel))) (hs _ (List.mem_of_getElem? (i := 362) (by decide +kernel))) (hs _ (List.mem_of_getElem? (i := 363) (by decide +kernel))) (hs _ (List.mem_of_getElem? (i := 364) (by decide +kernel))) (fun j hj => ?_) hA
  rcases (show j = 0 ∨ j = 1 ∨ j = 2 ∨ j = 3 by omega) with rfl | rfl | rfl | rfl
  · exact hs _ (List.mem_of_getElem? (i := 365) (by decide +kernel))
  · exact hs _ (List.mem_of_getElem? (i := 366) (by decide +kernel))
  · exact hs _ (List.mem_of_getElem? (i := 367) (by decide +kernel))
  · exact hs _ (List.mem_of_getElem? (i := 368) (by decide +kernel))
theorem ns_43 {s : State} {b : Nat} (hts : ∀ w ∈ lw_tbl, w.before #[Value.ref b] s = true) (hgv : (Cond.and given_1 narrow_1).before #[Value.ref b] s = true) {A : Nat → Prop} (hA : ∀ a : Nat, a < s.heap.size → ¬ A a) : ∃ (a av n : Nat) (f : Nat → Int32), (n ≤ 10 ∧ n = 2) ∧ vk_R RX12 189 "on" a s ∧ kstr a av n f A s s.heap := by
  have hs := flat_of_before _ hgv
  refine str_of (byt := [111, 110]) (by omega) (hts _ (List.mem_of_getElem? (i := 1671) (by decide +kernel))) (hs _ (List.mem_of_getElem? (i := 370) (by decide +kernel))) (hs _ (List.mem_of_getElem? (i := 371) (by decide +kernel))) (hs _ (List.mem_of_getElem? (i := 372) (by decide +kernel))) (hs _ (List.mem_of_getElem? (i := 373) (by decide +kernel))) (fun j hj => ?_) hA
  rcases (show j = 0 ∨ j = 1 by omega) with rfl | rfl
  · exact hs _ (List.mem_of_getElem? (i := 374) (by decide +kernel))
  · exact hs _ (List.mem_of_getElem? (i := 375) (by decide +kernel))
theorem ns_44 {s : State} {b : Nat} (hts : ∀ w ∈ lw_tbl, w.before #[Value.ref b] s = true) (hgv : (Cond.and given_1 narrow_1).before #[Value.ref b] s = true) {A : Nat → Prop} (hA : ∀ a : Nat, a < s.heap.size → ¬ A a) : ∃ (a av n : Nat) (f : Nat → Int32), (n ≤ 10 ∧ n = 2) ∧ vk_R RX12 191 "at" a s ∧ kstr a av n f A s s.heap := by
  have hs := flat_of_before _ hgv
  refine str_of (byt := [97, 116]) (by omega) (hts _ (List.mem_of_getElem? (i := 1672) (by decide +kernel))) (hs _ (List.mem_of_getElem? (i := 379) (by decide +kernel))) (hs _ (List.mem_of_getElem? (i := 380) (by decide +kernel))) (hs _ (List.mem_of_getElem? (i := 381) (by decide +kernel))) (hs _ (List.mem_of_getElem? (i := 382) (by decide +kernel))) (fun j hj => ?_) hA
  rcases (show j = 0 ∨ j = 1 by omega) with rfl | rfl
  · exact hs _ (List.mem_of_getElem? (i := 383) (by decide +kernel))
  · exact hs _ (List.mem_of_getElem? (i := 384) (by decide +kernel))
theorem ns_45 {s : State} {b : Nat} (hts : ∀ w ∈ lw_tbl, w.before #[Value.ref b] s = true) (hgv : (Cond.and given_1 narrow_1).before #[Value.ref b] s = true) {A : Nat → Prop} (hA : ∀ a : Nat, a < s.heap.size → ¬ A a) : ∃ (a av n : Nat) (f : Nat → Int32), (n ≤ 10 ∧ n = 4) ∧ vk_R RX12 192 "wide" a s ∧ kstr a av n f A s s.heap := by
  have hs := flat_of_before _ hgv
  refine str_of (byt := [119, 105, 100, 101]) (by omega) (hts _ (List.mem_of_getElem? (i := 1673) (by decide +kernel))) (hs _ (List.mem_of_getElem? (i := 387) (by decide +kernel))) (hs _ (List.mem_of_getElem? (i := 388) (by decide +kernel))) (hs _ (List.mem_of_getElem? (i := 389) (by decide +kernel))) (hs _ (List.mem_of_getElem? (i := 390) (by decide +kernel))) (fun j hj => ?_) hA
  rcases (show j = 0 ∨ j = 1 ∨ j = 2 ∨ j = 3 by omega) with rfl | rfl | rfl | rfl
  · exact hs _ (List.mem_of_getElem? (i := 391) (by decide +kernel))
  · exact hs _ (List.mem_of_getElem? (i := 392) (by decide +kernel))
  · exact hs _ (List.mem_of_getElem? (i := 393) (by decide +kernel))
  · exact hs _ (List.mem_of_getElem? (i := 394) (by decide +kernel))
theorem ns_46 {s : State} {b : Nat} (hts : ∀ w ∈ lw_tbl, w.before #[Value.ref b] s = true) (hgv : (Cond.and given_1 narrow_1).before #[Value.ref b] s = true) {A : Nat → Prop} (hA : ∀ a : Nat, a < s.heap.size → ¬ A a) : ∃ (a av n : Nat) (f : Nat → Int32), (n ≤ 10 ∧ n = 4) ∧ vk_R RX12 194 "high" a s ∧ kstr a av n f A s s.heap := by
  have hs := flat_of_before _ hgv
  refine str_of (byt := [104, 105, 103, 104]) (by omega) (hts _ (List.mem_of_getElem? (i := 1674) (by decide +kernel))) (hs _ (List.mem_of_getElem? (i := 396) (by decide +kernel))) (hs _ (List.mem_of_getElem? (i := 397) (by decide +kernel))) (hs _ (List.mem_of_getElem? (i := 398) (by decide +kernel))) (hs _ (List.mem_of_getElem? (i := 399) (by decide +kernel))) (fun j hj => ?_) hA
  rcases (show j = 0 ∨ j = 1 ∨ j = 2 ∨ j = 3 by omega) with rfl | rfl | rfl | rfl
  · exact hs _ (List.mem_of_getElem? (i := 400) (by decide +kernel))
  · exact hs _ (List.mem_of_getElem? (i := 401) (by decide +kernel))
  · exact hs _ (List.mem_of_getElem? (i := 402) (by decide +kernel))
  · exact hs _ (List.mem_of_getElem? (i := 403) (by decide +kernel))
theorem ns_47 {s : State} {b : Nat} (hts : ∀ w ∈ lw_tbl, w.before #[Value.ref b] s = true) (hgv : (Cond.and given_1 narrow_1).before #[Value.ref b] s = true) {A : Nat → Prop} (hA : ∀ a : Nat, a < s.heap.size → ¬ A a) : ∃ (a av n : Nat) (f : Nat → Int32), (n ≤ 10 ∧ n = 5) ∧ vk_R RX12 196 "steep" a s ∧ kstr a av n f A s s.heap := by
  have hs := flat_of_before _ hgv
  refine str_of (byt := [115, 116, 101, 101, 112]) (by omega) (hts _ (List.mem_of_getElem? (i := 1675) (by decide +kernel))) (hs _ (List.mem_of_getElem? (i := 405) (by decide +kernel))) (hs _ (List.mem_of_getElem? (i := 406) (by decide +kernel))) (hs _ (List.mem_of_getElem? (i := 407) (by decide +kernel))) (hs _ (List.mem_of_getElem? (i := 408) (by decide +kernel))) (fun j hj => ?_) hA
  rcases (show j = 0 ∨ j = 1 ∨ j = 2 ∨ j = 3 ∨ j = 4 by omega) with rfl | rfl | rfl | rfl | rfl
  · exact hs _ (List.mem_of_getElem? (i := 409) (by decide +kernel))
  · exact hs _ (List.mem_of_getElem? (i := 410) (by decide +kernel))
  · exact hs _ (List.mem_of_getElem? (i := 411) (by decide +kernel))
  · exact hs _ (List.mem_of_getElem? (i := 412) (by decide +kernel))
  · exact hs _ (List.mem_of_getElem? (i := 413) (by decide +kernel))
theorem ns_48 {s : State} {b : Nat} (hts : ∀ w ∈ lw_tbl, w.before #[Value.ref b] s = true) (hgv : (Cond.and given_1 narrow_1).before #[Value.ref b] s = true) {A : Nat → Prop} (hA : ∀ a : Nat, a < s.heap.size → ¬ A a) : ∃ (a av n : Nat) (f : Nat → Int32), (n ≤ 10 ∧ n = 5) ∧ vk_R RX12 204 "teeth" a s ∧ kstr a av n f A s s.heap := by
  have hs := flat_of_before _ hgv
  refine str_of (byt := [116, 101, 101, 116, 104]) (by omega) (hts _ (List.mem_of_getElem? (i := 1680) (by decide +kernel))) (hs _ (List.mem_of_getElem? (i := 415) (by decide +kernel))) (hs _ (List.mem_of_getElem? (i := 416) (by decide +kernel))) (hs _ (List.mem_of_getElem? (i := 417) (by decide +kernel))) (hs _ (List.mem_of_getElem? (i := 418) (by decide +kernel))) (fun j hj => ?_) hA
  rcases (show j = 0 ∨ j = 1 ∨ j = 2 ∨ j = 3 ∨ j = 4 by omega) with rfl | rfl | rfl | rfl | rfl
  · exact hs _ (List.mem_of_getElem? (i := 419) (by decide +kernel))
  · exact hs _ (List.mem_of_getElem? (i := 420) (by decide +kernel))
  · exact hs _ (List.mem_of_getElem? (i := 421) (by decide +kernel))
  · exact hs _ (List.mem_of_getElem? (i := 422) (by decide +kernel))
  · exact hs _ (List.mem_of_getElem? (i := 423) (by decide +kernel))
theorem ns_49 {s : State} {b : Nat} (hts : ∀ w ∈ lw_tbl, w.before #[Value.ref b] s = true) (hgv : (Cond.and given_1 narrow_1).before #[Value.ref b] s = true) {A : Nat → Prop} (hA : ∀ a : Nat, a < s.heap.size → ¬ A a) : ∃ (a av n : Nat) (f : Nat → Int32), (n ≤ 10 ∧ n = 2) ∧ vk_R RX12 231 "to" a s ∧ kstr a av n f A s s.heap := by
  have hs := flat_of_before _ hgv
  refine str_of (byt := [116, 111]) (by omega) (hts _ (List.mem_of_getElem? (i := 1681) (by decide +kernel))) (hs _ (List.mem_of_getElem? (i := 425) (by decide +kernel))) (hs _ (List.mem_of_getElem? (i := 426) (by decide +kernel))) (hs _ (List.mem_of_getElem? (i := 427) (by decide +kernel))) (hs _ (List.mem_of_getElem? (i := 428) (by decide +kernel))) (fun j hj => ?_) hA
  rcases (show j = 0 ∨ j = 1 by omega) with rfl | rfl
  · exact hs _ (List.mem_of_getElem? (i := 429) (by decide +kernel))
  · exact hs _ (List.mem_of_getElem? (i := 430) (by decide +kernel))
theorem ns_50 {s : State} {b : Nat} (hts : ∀ w ∈ lw_tbl, w.before #[Value.ref b] s = true) (hgv : (Cond.and given_1 narrow_1).before #[Value.ref b] s = true) {A : Nat → Prop} (hA : ∀ a : Nat, a < s.heap.size → ¬ A a) : ∃ (a av n : Nat) (f : Nat → Int32), (n ≤ 10 ∧ n = 4) ∧ vk_R RX12 198 "over" a s ∧ kstr a av n f A s s.heap := by
  have hs := flat_of_before _ hgv
  refine str_of (byt := [111, 118, 101, 114]) (by omega) (hts _ (List.mem_of_getElem? (i := 1686) (by decide +kernel))) (hs _ (List.mem_of_getElem? (i := 432) (by decide +kernel))) (hs _ (List.mem_of_getElem? (i := 433) (by decide +kernel))) (hs _ (List.mem_of_getElem? (i := 434) (by decide +kernel))) (hs _ (List.mem_of_getElem? (i := 435) (by decide +kernel))) (fun j hj => ?_) hA
  rcases (show j = 0 ∨ j = 1 ∨ j = 2 ∨ j = 3 by omega) with rfl | rfl | rfl | rfl
  · exact hs _ (List.mem_of_getElem? (i := 436) (by decide +kernel))
  · exact hs _ (List.mem_of_getElem? (i := 437) (by decide +kernel))
  · exact hs _ (List.mem_of_getElem? (i := 438) (by decide +kernel))
  · exact hs _ (List.mem_of_getElem? (i := 439) (by decide +kernel))
theorem ns_51 {s : State} {b : Nat} (hts : ∀ w ∈ lw_tbl, w.before #[Value.ref b] s = true) (hgv : (Cond.and given_1 narrow_1).before #[Value.ref b] s = true) {A : Nat → Prop} (hA : ∀ a : Nat, a < s.heap.size → ¬ A a) : ∃ (a av n : Nat) (f : Nat → Int32), (n ≤ 10 ∧ n = 6) ∧ vk_R RX12 200 "spring" a s ∧ kstr a av n f A s s.heap := by
  have hs := flat_of_before _ hgv
  refine str_of (byt := [115, 112, 114, 105, 110, 103]) (by omega) (hts _ (List.mem_of_getElem? (i := 1687) (by decide +kernel))) (hs _ (List.mem_of_getElem? (i := 441) (by decide +kernel))) (hs _ (List.mem_of_getElem? (i := 442) (by decide +kernel))) (hs _ (List.mem_of_getElem? (i := 443) (by decide +kernel))) (hs _ (List.mem_of_getElem? (i := 444) (by decide +kernel))) (fun j hj => ?_) hA
  rcases (show j = 0 ∨ j = 1 ∨ j = 2 ∨ j = 3 ∨ j = 4 ∨ j = 5 by omega) with rfl | rfl | rfl | rfl | rfl | rfl
  · exact hs _ (List.mem_of_getElem? (i := 445) (by decide +kernel))
  · exact hs _ (List.mem_of_getElem? (i := 446) (by decide +kernel))
  · exact hs _ (List.mem_of_getElem? (i := 447) (by decide +kernel))
  · exact hs _ (List.mem_of_getElem? (i := 448) (by decide +kernel))
  · exact hs _ (List.mem_of_getElem? (i := 449) (by decide +kernel))
  · exact hs _ (List.mem_of_getElem? (i := 450) (by decide +kernel))
theorem ns_52 {s : State} {b : Nat} (hts : ∀ w ∈ lw_tbl, w.before #[Value.ref b] s = true) (hgv : (Cond.and given_1 narrow_1).before #[Value.ref b] s = true) {A : Nat → Prop} (hA : ∀ a : Nat, a < s.heap.size → ¬ A a) : ∃ (a av n : Nat) (f : Nat → Int32), (n ≤ 10 ∧ n = 3) ∧ vk_R RX12 202 "lag" a s ∧ kstr a av n f A s s.heap := by
  have hs := flat_of_before _ hgv
  refine str_of (byt := [108, 97, 103]) (by omega) (hts _ (List.mem_of_getElem? (i := 1688) (by decide +kernel))) (hs _ (List.mem_of_getElem? (i := 452) (by decide +kernel))) (hs _ (List.mem_of_getElem? (i := 453) (by decide +kernel))) (hs _ (List.mem_of_getElem? (i := 454) (by decide +kernel))) (hs _ (List.mem_of_getElem? (i := 455) (by decide +kernel))) (fun j hj => ?_) hA
  rcases (show j = 0 ∨ j = 1 ∨ j = 2 by omega) with rfl | rfl | rfl
  · exact hs _ (List.mem_of_getElem? (i := 456) (by decide +kernel))
  · exact hs _ (List.mem_of_getElem? (i := 457) (by decide +kernel))
  · exact hs _ (List.mem_of_getElem? (i := 458) (by decide +kernel))
theorem ns_53 {s : State} {b : Nat} (hts : ∀ w ∈ lw_tbl, w.before #[Value.ref b] s = true) (hgv : (Cond.and given_1 narrow_1).before #[Value.ref b] s = true) {A : Nat → Prop} (hA : ∀ a : Nat, a < s.heap.size → ¬ A a) : ∃ (a av n : Nat) (f : Nat → Int32), (n ≤ 10 ∧ n = 2) ∧ vk_R RX12 366 "up" a s ∧ kstr a av n f A s s.heap := by
  have hs := flat_of_before _ hgv
  refine str_of (byt := [117, 112]) (by omega) (hts _ (List.mem_of_getElem? (i := 1912) (by decide +kernel))) (hs _ (List.mem_of_getElem? (i := 460) (by decide +kernel))) (hs _ (List.mem_of_getElem? (i := 461) (by decide +kernel))) (hs _ (List.mem_of_getElem? (i := 462) (by decide +kernel))) (hs _ (List.mem_of_getElem? (i := 463) (by decide +kernel))) (fun j hj => ?_) hA
  rcases (show j = 0 ∨ j = 1 by omega) with rfl | rfl
  · exact hs _ (List.mem_of_getElem? (i := 464) (by decide +kernel))
  · exact hs _ (List.mem_of_getElem? (i := 465) (by decide +kernel))
theorem ns_54 {s : State} {b : Nat} (hts : ∀ w ∈ lw_tbl, w.before #[Value.ref b] s = true) (hgv : (Cond.and given_1 narrow_1).before #[Value.ref b] s = true) {A : Nat → Prop} (hA : ∀ a : Nat, a < s.heap.size → ¬ A a) : ∃ (a av n : Nat) (f : Nat → Int32), (n ≤ 10 ∧ n = 4) ∧ vk_R RX12 368 "down" a s ∧ kstr a av n f A s s.heap := by
  have hs := flat_of_before _ hgv
  refine str_of (byt := [100, 111, 119, 110]) (by omega) (hts _ (List.mem_of_getElem? (i := 1913) (by decide +kernel))) (hs _ (List.mem_of_getElem? (i := 467) (by decide +kernel))) (hs _ (List.mem_of_getElem? (i := 468) (by decide +kernel))) (hs _ (List.mem_of_getElem? (i := 469) (by decide +kernel))) (hs _ (List.mem_of_getElem? (i := 470) (by decide +kernel))) (fun j hj => ?_) hA
  rcases (show j = 0 ∨ j = 1 ∨ j = 2 ∨ j = 3 by omega) with rfl | rfl | rfl | rfl
  · exact hs _ (List.mem_of_getElem? (i := 471) (by decide +kernel))
  · exact hs _ (List.mem_of_getElem? (i := 472) (by decide +kernel))
  · exact hs _ (List.mem_of_getElem? (i := 473) (by decide +kernel))
  · exact hs _ (List.mem_of_getElem? (i := 474) (by decide +kernel))
theorem ns_55 {s : State} {b : Nat} (hts : ∀ w ∈ lw_tbl, w.before #[Value.ref b] s = true) (hgv : (Cond.and given_1 narrow_1).before #[Value.ref b] s = true) {A : Nat → Prop} (hA : ∀ a : Nat, a < s.heap.size → ¬ A a) : ∃ (a av n : Nat) (f : Nat → Int32), (n ≤ 10 ∧ n = 4) ∧ vk_R RX12 370 "hold" a s ∧ kstr a av n f A s s.heap := by
  have hs := flat_of_before _ hgv
  refine str_of (byt := [104, 111, 108, 100]) (by omega) (hts _ (List.mem_of_getElem? (i := 1914) (by decide +kernel))) (hs _ (List.mem_of_getElem? (i := 476) (by decide +kernel))) (hs _ (List.mem_of_getElem? (i := 477) (by decide +kernel))) (hs _ (List.mem_of_getElem? (i := 478) (by decide +kernel))) (hs _ (List.mem_of_getElem? (i := 479) (by decide +kernel))) (fun j hj => ?_) hA
  rcases (show j = 0 ∨ j = 1 ∨ j = 2 ∨ j = 3 by omega) with rfl | rfl | rfl | rfl
  · exact hs _ (List.mem_of_getElem? (i := 480) (by decide +kernel))
  · exact hs _ (List.mem_of_getElem? (i := 481) (by decide +kernel))
  · exact hs _ (List.mem_of_getElem? (i := 482) (by decide +kernel))
  · exact hs _ (List.mem_of_getElem? (i := 483) (by decide +kernel))
theorem ns_56 {s : State} {b : Nat} (hts : ∀ w ∈ lw_tbl, w.before #[Value.ref b] s = true) (hgv : (Cond.and given_1 narrow_1).before #[Value.ref b] s = true) {A : Nat → Prop} (hA : ∀ a : Nat, a < s.heap.size → ¬ A a) : ∃ (a av n : Nat) (f : Nat → Int32), (n ≤ 10 ∧ n = 5) ∧ vk_R RX12 372 "times" a s ∧ kstr a av n f A s s.heap := by
  have hs := flat_of_before _ hgv
  refine str_of (byt := [116, 105, 109, 101, 115]) (by omega) (hts _ (List.mem_of_getElem? (i := 1915) (by decide +kernel))) (hs _ (List.mem_of_getElem? (i := 485) (by decide +kernel))) (hs _ (List.mem_of_getElem? (i := 486) (by decide +kernel))) (hs _ (List.mem_of_getElem? (i := 487) (by decide +kernel))) (hs _ (List.mem_of_getElem? (i := 488) (by decide +kernel))) (fun j hj => ?_) hA
  rcases (show j = 0 ∨ j = 1 ∨ j = 2 ∨ j = 3 ∨ j = 4 by omega) with rfl | rfl | rfl | rfl | rfl
  · exact hs _ (List.mem_of_getElem? (i := 489) (by decide +kernel))
  · exact hs _ (List.mem_of_getElem? (i := 490) (by decide +kernel))
  · exact hs _ (List.mem_of_getElem? (i := 491) (by decide +kernel))
  · exact hs _ (List.mem_of_getElem? (i := 492) (by decide +kernel))
  · exact hs _ (List.mem_of_getElem? (i := 493) (by decide +kernel))
theorem ns_57 {s : State} {b : Nat} (hts : ∀ w ∈ lw_tbl, w.before #[Value.ref b] s = true) (hgv : (Cond.and given_1 narrow_1).before #[Value.ref b] s = true) {A : Nat → Prop} (hA : ∀ a : Nat, a < s.heap.size → ¬ A a) : ∃ (a av n : Nat) (f : Nat → Int32), (n ≤ 10 ∧ n = 2) ∧ vk_R RX12 377 "if" a s ∧ kstr a av n f A s s.heap := by
  have hs := flat_of_before _ hgv
  refine str_of (byt := [105, 102]) (by omega) (hts _ (List.mem_of_getElem? (i := 1920) (by decide +kernel))) (hs _ (List.mem_of_getElem? (i := 495) (by decide +kernel))) (hs _ (List.mem_of_getElem? (i := 496) (by decide +kernel))) (hs _ (List.mem_of_getElem? (i := 497) (by decide +kernel))) (hs _ (List.mem_of_getElem? (i := 498) (by decide +kernel))) (fun j hj => ?_) hA
  rcases (show j = 0 ∨ j = 1 by omega) with rfl | rfl
  · exact hs _ (List.mem_of_getElem? (i := 499) (by decide +kernel))
  · exact hs _ (List.mem_of_getElem? (i := 500) (by decide +kernel))
theorem ns_58 {s : State} {b : Nat} (hts : ∀ w ∈ lw_tbl, w.before #[Value.ref b] s = true) (hgv : (Cond.and given_1 narrow_1).before #[Value.ref b] s = true) {A : Nat → Prop} (hA : ∀ a : Nat, a < s.heap.size → ¬ A a) : ∃ (a av n : Nat) (f : Nat → Int32), (n ≤ 10 ∧ n = 5) ∧ vk_R RX12 379 "above" a s ∧ kstr a av n f A s s.heap := by
  have hs := flat_of_before _ hgv
  refine str_of (byt := [97, 98, 111, 118, 101]) (by omega) (hts _ (List.mem_of_getElem? (i := 1921) (by decide +kernel))) (hs _ (List.mem_of_getElem? (i := 502) (by decide +kernel))) (hs _ (List.mem_of_getElem? (i := 503) (by decide +kernel))) (hs _ (List.mem_of_getElem? (i := 504) (by decide +kernel))) (hs _ (List.mem_of_getElem? (i := 505) (by decide +kernel))) (fun j hj => ?_) hA
  rcases (show j = 0 ∨ j = 1 ∨ j = 2 ∨ j = 3 ∨ j = 4 by omega) with rfl | rfl | rfl | rfl | rfl
  · exact hs _ (List.mem_of_getElem? (i := 506) (by decide +kernel))
  · exact hs _ (List.mem_of_getElem? (i := 507) (by decide +kernel))
  · exact hs _ (List.mem_of_getElem? (i := 508) (by decide +kernel))
  · exact hs _ (List.mem_of_getElem? (i := 509) (by decide +kernel))
  · exact hs _ (List.mem_of_getElem? (i := 510) (by decide +kernel))
theorem NT_start {s : State} {b : Nat} (hts : ∀ w ∈ lw_tbl, w.before #[Value.ref b] s = true) (hgv : (Cond.and given_1 narrow_1).before #[Value.ref b] s = true) : NT (fun q : Nat => s.heap.size ≤ q) s := by
  have hs := flat_of_before _ hgv
  have hA : ∀ a : Nat, a < s.heap.size → ¬ (fun q : Nat => s.heap.size ≤ q) a := fun a h => Nat.not_le.mpr h
  refine ⟨⟨va_Zof (hts _ (List.mem_of_getElem? (i := 683) (by decide +kernel))) (hts _ (List.mem_of_getElem? (i := 121) (by decide +kernel))) (va_eqt (hs _ (List.mem_of_getElem? (i := 4) (by decide +kernel)))) hA, va_Zqof (hts _ (List.mem_of_getElem? (i := 699) (by decide +kernel))) (hts _ (List.mem_of_getElem? (i := 123) (by decide +kernel))) (hs _ (List.mem_of_getElem? (i := 5) (by decide +kernel))) hA⟩, fun q hq => ?_⟩
  simp only [refsL, List.mem_cons, List.not_mem_nil, or_false] at hq
  rcases hq with rfl | rfl | rfl | rfl | rfl | rfl | rfl | rfl | rfl | rfl | rfl | rfl | rfl | rfl | rfl | rfl | rfl | rfl | rfl | rfl | rfl | rfl | rfl | rfl | rfl | rfl | rfl | rfl | rfl | rfl | rfl | rfl | rfl | rfl | rfl | rfl | rfl | rfl | rfl | rfl | rfl | rfl | rfl | rfl | rfl | rfl | rfl | rfl | rfl | rfl | rfl | rfl | rfl | rfl | rfl | rfl | rfl | rfl | rfl
  · exact ns_0 hts hgv hA
  · exact ns_1 hts hgv hA
  · exact ns_2 hts hgv hA
  · exact ns_3 hts hgv hA
  · exact ns_4 hts hgv hA
  · exact ns_5 hts hgv hA
  · exact ns_6 hts hgv hA
  · exact ns_7 hts hgv hA
  · exact ns_8 hts hgv hA
  · exact ns_9 hts hgv hA
  · exact ns_10 hts hgv hA
  · exact ns_11 hts hgv hA
  · exact ns_12 hts hgv hA
  · exact ns_13 hts hgv hA
  · exact ns_14 hts hgv hA
  · exact ns_15 hts hgv hA
  · exact ns_16 hts hgv hA
  · exact ns_17 hts hgv hA
  · exact ns_18 hts hgv hA
  · exact ns_19 hts hgv hA
  · exact ns_20 hts hgv hA
  · exact ns_21 hts hgv hA
  · exact ns_22 hts hgv hA
  · exact ns_23 hts hgv hA
  · exact ns_24 hts hgv hA
  · exact ns_25 hts hgv hA
  · exact ns_26 hts hgv hA
  · exact ns_27 hts hgv hA
  · exact ns_28 hts hgv hA
  · exact ns_29 hts hgv hA
  · exact ns_30 hts hgv hA
  · exact ns_31 hts hgv hA
  · exact ns_32 hts hgv hA
  · exact ns_33 hts hgv hA
  · exact ns_34 hts hgv hA
  · exact ns_35 hts hgv hA
  · exact ns_36 hts hgv hA
  · exact ns_37 hts hgv hA
  · exact ns_38 hts hgv hA
  · exact ns_39 hts hgv hA
  · exact ns_40 hts hgv hA
  · exact ns_41 hts hgv hA
  · exact ns_42 hts hgv hA
  · exact ns_43 hts hgv hA
  · exact ns_44 hts hgv hA
  · exact ns_45 hts hgv hA
  · exact ns_46 hts hgv hA
  · exact ns_47 hts hgv hA
  · exact ns_48 hts hgv hA
  · exact ns_49 hts hgv hA
  · exact ns_50 hts hgv hA
  · exact ns_51 hts hgv hA
  · exact ns_52 hts hgv hA
  · exact ns_53 hts hgv hA
  · exact ns_54 hts hgv hA
  · exact ns_55 hts hgv hA
  · exact ns_56 hts hgv hA
  · exact ns_57 hts hgv hA
  · exact ns_58 hts hgv hA
