theorem dL_law_240 : decode cL_law 240 = .ok (.aload_n 1, 1) := by decide +kernel
theorem dL_law_241 : decode cL_law 241 = .ok (.aload_n 0, 1) := by decide +kernel
theorem dL_law_242 : decode cL_law 242 = .ok (.iload_n 3, 1) := by decide +kernel
theorem dL_law_243 : decode cL_law 243 = .ok (.iconst 1, 1) := by decide +kernel
theorem dL_law_244 : decode cL_law 244 = .ok (.iadd, 1) := by decide +kernel
theorem dL_law_245 : decode cL_law 245 = .ok (.iaload, 1) := by decide +kernel
theorem dL_law_246 : decode cL_law 246 = .ok (.aload_n 0, 1) := by decide +kernel
theorem dL_law_247 : decode cL_law 247 = .ok (.iload_n 3, 1) := by decide +kernel
theorem dL_law_248 : decode cL_law 248 = .ok (.iconst 2, 1) := by decide +kernel
theorem dL_law_249 : decode cL_law 249 = .ok (.iadd, 1) := by decide +kernel
theorem dL_law_250 : decode cL_law 250 = .ok (.iaload, 1) := by decide +kernel
theorem dL_law_251 : decode cL_law 251 = .ok (.aload_n 0, 1) := by decide +kernel
theorem dL_law_252 : decode cL_law 252 = .ok (.iload_n 3, 1) := by decide +kernel
theorem dL_law_253 : decode cL_law 253 = .ok (.iconst 3, 1) := by decide +kernel
theorem dL_law_254 : decode cL_law 254 = .ok (.iadd, 1) := by decide +kernel
theorem dL_law_255 : decode cL_law 255 = .ok (.iaload, 1) := by decide +kernel
theorem dL_law_256 : decode cL_law 256 = .ok (.aload_n 0, 1) := by decide +kernel
theorem dL_law_257 : decode cL_law 257 = .ok (.iload_n 3, 1) := by decide +kernel
theorem dL_law_258 : decode cL_law 258 = .ok (.iconst 4, 1) := by decide +kernel
theorem dL_law_259 : decode cL_law 259 = .ok (.iadd, 1) := by decide +kernel
theorem dL_law_260 : decode cL_law 260 = .ok (.iaload, 1) := by decide +kernel
theorem dL_law_261 : decode cL_law 261 = .ok (.aload_n 0, 1) := by decide +kernel
theorem dL_law_262 : decode cL_law 262 = .ok (.iload_n 3, 1) := by decide +kernel
theorem dL_law_263 : decode cL_law 263 = .ok (.iconst 5, 1) := by decide +kernel
theorem dL_law_264 : decode cL_law 264 = .ok (.iadd, 1) := by decide +kernel
theorem dL_law_265 : decode cL_law 265 = .ok (.iaload, 1) := by decide +kernel
theorem dL_law_266 : decode cL_law 266 = .ok (.invokevirtual 13, 3) := by decide +kernel
theorem dL_law_269 : decode cL_law 269 = .ok (.pop, 1) := by decide +kernel
theorem dL_law_270 : decode cL_law 270 = .ok (.aload_n 2, 1) := by decide +kernel
theorem dL_law_271 : decode cL_law 271 = .ok (.aload_n 0, 1) := by decide +kernel
theorem dL_law_272 : decode cL_law 272 = .ok (.iload_n 3, 1) := by decide +kernel
theorem dL_law_273 : decode cL_law 273 = .ok (.iconst 1, 1) := by decide +kernel
theorem dL_law_274 : decode cL_law 274 = .ok (.iadd, 1) := by decide +kernel
theorem dL_law_275 : decode cL_law 275 = .ok (.iaload, 1) := by decide +kernel
theorem dL_law_276 : decode cL_law 276 = .ok (.aload_n 0, 1) := by decide +kernel
theorem dL_law_277 : decode cL_law 277 = .ok (.iload_n 3, 1) := by decide +kernel
theorem dL_law_278 : decode cL_law 278 = .ok (.iconst 2, 1) := by decide +kernel
theorem dL_law_279 : decode cL_law 279 = .ok (.iadd, 1) := by decide +kernel
theorem dL_law_280 : decode cL_law 280 = .ok (.iaload, 1) := by decide +kernel
theorem dL_law_281 : decode cL_law 281 = .ok (.aload_n 0, 1) := by decide +kernel
theorem dL_law_282 : decode cL_law 282 = .ok (.iload_n 3, 1) := by decide +kernel
theorem dL_law_283 : decode cL_law 283 = .ok (.iconst 3, 1) := by decide +kernel
theorem dL_law_284 : decode cL_law 284 = .ok (.iadd, 1) := by decide +kernel
theorem dL_law_285 : decode cL_law 285 = .ok (.iaload, 1) := by decide +kernel
theorem dL_law_286 : decode cL_law 286 = .ok (.aload_n 0, 1) := by decide +kernel
theorem dL_law_287 : decode cL_law 287 = .ok (.iload_n 3, 1) := by decide +kernel
theorem dL_law_288 : decode cL_law 288 = .ok (.iconst 4, 1) := by decide +kernel
theorem dL_law_289 : decode cL_law 289 = .ok (.iadd, 1) := by decide +kernel
theorem dL_law_290 : decode cL_law 290 = .ok (.iaload, 1) := by decide +kernel
theorem dL_law_291 : decode cL_law 291 = .ok (.aload_n 0, 1) := by decide +kernel
theorem dL_law_292 : decode cL_law 292 = .ok (.iload_n 3, 1) := by decide +kernel
theorem dL_law_293 : decode cL_law 293 = .ok (.iconst 5, 1) := by decide +kernel
theorem dL_law_294 : decode cL_law 294 = .ok (.iadd, 1) := by decide +kernel
theorem dL_law_295 : decode cL_law 295 = .ok (.iaload, 1) := by decide +kernel
theorem dL_law_296 : decode cL_law 296 = .ok (.invokevirtual 17, 3) := by decide +kernel
theorem dL_law_299 : decode cL_law 299 = .ok (.pop, 1) := by decide +kernel
theorem dL_law_300 : decode cL_law 300 = .ok (.goto 1430, 3) := by decide +kernel
def CW_0 (cI cZ cB cJ cM cG : ClassId) (a : Nat → Nat) (u : Nat → Int32) (F : Nat → Nat → Int32) (G : Nat → Nat → Int64) (j : Int64) : va_W := [(a 0, .inr (11, [.ref (a 1), .ref (a 2), .ref (a 3), .ref (a 4), .ref (a 5), .ref (a 6), .ref (a 7), .ref (a 8), .ref (a 9), .ref (a 10)])), (a 1, .inr (10, [.ref (a 11), .int (u 0), .int (u 1), .int (u 2), .int (u 3), .int (u 4), .int (u 5), .int (u 6)])), (a 11, .inl (cB, 1600, .inl (F 0))), (a 171, .inr (12, [.int (u 117), .ref (a 172), .ref (a 173), .ref (a 174), .ref (a 175), .int (u 118), .ref (a 176), .int (u 119), .int (u 120), .int (u 121), .int (u 122), .int (u 123), .int (u 124), .int (u 125), .ref (a 177), .ref (a 178), .ref (a 179), .ref (a 180), .ref (a 181), .ref (a 182), .ref (a 183), .int (u 126), .ref (a 184), .int (u 127), .ref (a 185), .ref (a 186), .int (u 128), .ref (a 187), .ref (a 188), .ref (a 189), .ref (a 190), .int (u 129), .int (u 130), .int (u 131), .int (u 132), .int (u 133), .ref (a 191), .long j, .ref (a 192), .ref (a 193), .ref (a 194), .ref (a 195)])), (a 175, .inl (cB, 1600, .inl (F 139))), (a 176, .inl (cI, 5, .inl (F 140)))]
def CA_0 (a : Nat → Nat) : List Nat := [a 0, a 1, a 11, a 171, a 175, a 176]
set_option maxHeartbeats 16000000 in
set_option maxRecDepth 100000 in
theorem lcase_0 {p : Program} {l : Launch} {e : Env} {s : State} {m : MethodId} {below : List Frame} {meth : Method} {c : Code} {b L : Nat} {xs : Nat → Int32} {dC : Nat → ClassId} {dI : Nat → Nat → Nat} {cI cZ cB cJ cM cG : ClassId} (a : Nat → Nat) (u : Nat → Int32) (F : Nat → Nat → Int32) (G : Nat → Nat → Int64) (j : Int64) {H0 H : Heap} {locs : List Loc} {ls : Array Slot} {w3 : Int32} (C0 : lw_At p s m meth c b L xs) (hL : L ≤ 384) (hN : NT (fun q : Nat => s.heap.size ≤ q) s) (hK : va_K (dC, dI) vwCl [(cI, .int), (cZ, .boolean), (cB, .byte), (cJ, .long), (cM, .object RX2), (cG, .array .int)] s) (hP : va_P (dC, dI) vwCl (CW_0 cI cZ cB cJ cM cG a u F G j) H) (hD : va_D (fun q : Nat => s.heap.size ≤ q) (CW_0 cI cZ cB cJ cM cG a u F G j)) (hF : (∀ q : Nat, q < H0.size → q ∉ (CA_0 a) → H[q]? = H0[q]?)) (hZ : H0.size ≤ H.size) (hS : va_S (fun q : Nat => s.heap.size ≤ q) s.heap H locs) (hl : lv_has ls 4 [(0, .ref b), (1, .ref (a 0)), (2, .ref (a 171)), (3, .int w3)]) (hi0 : 0 ≤ w3.toInt) (hi6 : w3.toInt + 6 ≤ (L : Int)) (p_0 : (0 : Int) ≤ (u 0).toInt ∧ (u 0).toInt ≤ 1600) (p_1 : (0 : Int) ≤ (u 4).toInt ∧ (u 4).toInt ≤ 1600) (p_2 : (0 : Int) ≤ (u 5).toInt ∧ (u 5).toInt ≤ 1600) (p_64 : (0 : Int) ≤ (u 118).toInt ∧ (u 118).toInt ≤ 1600) (p_65 : (0 : Int) ≤ (u 119).toInt ∧ (u 119).toInt ≤ 1600) (p_66 : (0 : Int) ≤ (u 120).toInt ∧ (u 120).toInt ≤ 1600) (p_67 : (0 : Int) ≤ (u 121).toInt ∧ (u 121).toInt ≤ 1600) (p_68 : (0 : Int) ≤ (u 122).toInt ∧ (u 122).toInt ≤ 6) (p_69 : (0 : Int) ≤ (u 124).toInt ∧ (u 124).toInt ≤ 3) (p_70 : (0 : Int) ≤ (u 128).toInt ∧ (u 128).toInt ≤ 59) (hk : ∀ (H : Heap) (locs : List Loc) (ls : Array Slot) (x9 : Int32) (u9 : Nat → Int32) (F9 : Nat → Nat → Int32) (G9 : Nat → Nat → Int64) (j9 : Int64), va_P (dC, dI) vwCl (CW_0 cI cZ cB cJ cM cG a u9 F9 G9 j9) H → va_D (fun q : Nat => s.heap.size ≤ q) (CW_0 cI cZ cB cJ cM cG a u9 F9 G9 j9) → (∀ q : Nat, q < H0.size → q ∉ (CA_0 a) → H[q]? = H0[q]?) → H0.size ≤ H.size → va_S (fun q : Nat => s.heap.size ≤ q) s.heap H locs → lv_has ls 4 [(0, .ref b), (1, .ref (a 0)), (2, .ref (a 171)), (3, .int x9)] → x9.toInt = w3.toInt + (6 : Int32).toInt → ((0 : Int) ≤ (u9 0).toInt ∧ (u9 0).toInt ≤ 1600) → ((0 : Int) ≤ (u9 4).toInt ∧ (u9 4).toInt ≤ 1600) → ((0 : Int) ≤ (u9 5).toInt ∧ (u9 5).toInt ≤ 1600) → ((0 : Int) ≤ (u9 118).toInt ∧ (u9 118).toInt ≤ 1600) → ((0 : Int) ≤ (u9 119).toInt ∧ (u9 119).toInt ≤ 1600) → ((0 : Int) ≤ (u9 120).toInt ∧ (u9 120).toInt ≤ 1600) → ((0 : Int) ≤ (u9 121).toInt ∧ (u9 121).toInt ≤ 1600) → ((0 : Int) ≤ (u9 122).toInt ∧ (u9 122).toInt ≤ 6) → ((0 : Int) ≤ (u9 124).toInt ∧ (u9 124).toInt ≤ 3) → ((0 : Int) ≤ (u9 128).toInt ∧ (u9 128).toInt ≤ 59) → W p l e room_1 s m #[Value.ref b] below meth c H locs 600000 7302250 (lw_Z below #[Value.ref b] s) (F0 m 18 ls [])) : W p l e room_1 s m #[Value.ref b] below meth c H locs 600000 7302250 (lw_Z below #[Value.ref b] s) (F0 m 240 ls []) := by
  replace hP : va_P (dC, dI) vwCl [(a 0, .inr (11, [.ref (a 1), .ref (a 2), .ref (a 3), .ref (a 4), .ref (a 5), .ref (a 6), .ref (a 7), .ref (a 8), .ref (a 9), .ref (a 10)])), (a 1, .inr (10, [.ref (a 11), .int (u 0), .int (u 1), .int (u 2), .int (u 3), .int (u 4), .int (u 5), .int (u 6)])), (a 11, .inl (cB, 1600, .inl (F 0))), (a 171, .inr (12, [.int (u 117), .ref (a 172), .ref (a 173), .ref (a 174), .ref (a 175), .int (u 118), .ref (a 176), .int (u 119), .int (u 120), .int (u 121), .int (u 122), .int (u 123), .int (u 124), .int (u 125), .ref (a 177), .ref (a 178), .ref (a 179), .ref (a 180), .ref (a 181), .ref (a 182), .ref (a 183), .int (u 126), .ref (a 184), .int (u 127), .ref (a 185), .ref (a 186), .int (u 128), .ref (a 187), .ref (a 188), .ref (a 189), .ref (a 190), .int (u 129), .int (u 130), .int (u 131), .int (u 132), .int (u 133), .ref (a 191), .long j, .ref (a 192), .ref (a 193), .ref (a 194), .ref (a 195)])), (a 175, .inl (cB, 1600, .inl (F 139))), (a 176, .inl (cI, 5, .inl (F 140)))] H := hP
  replace hD : va_D (fun q : Nat => s.heap.size ≤ q) [(a 0, .inr (11, [.ref (a 1), .ref (a 2), .ref (a 3), .ref (a 4), .ref (a 5), .ref (a 6), .ref (a 7), .ref (a 8), .ref (a 9), .ref (a 10)])), (a 1, .inr (10, [.ref (a 11), .int (u 0), .int (u 1), .int (u 2), .int (u 3), .int (u 4), .int (u 5), .int (u 6)])), (a 11, .inl (cB, 1600, .inl (F 0))), (a 171, .inr (12, [.int (u 117), .ref (a 172), .ref (a 173), .ref (a 174), .ref (a 175), .int (u 118), .ref (a 176), .int (u 119), .int (u 120), .int (u 121), .int (u 122), .int (u 123), .int (u 124), .int (u 125), .ref (a 177), .ref (a 178), .ref (a 179), .ref (a 180), .ref (a 181), .ref (a 182), .ref (a 183), .int (u 126), .ref (a 184), .int (u 127), .ref (a 185), .ref (a 186), .int (u 128), .ref (a 187), .ref (a 188), .ref (a 189), .ref (a 190), .int (u 129), .int (u 130), .int (u 131), .int (u 132), .int (u 133), .ref (a 191), .long j, .ref (a 192), .ref (a 193), .ref (a 194), .ref (a 195)])), (a 175, .inl (cB, 1600, .inl (F 139))), (a 176, .inl (cI, 5, .inl (F 140)))] := hD
  replace hF : ∀ q : Nat, q < H0.size → q ∉ ([a 0, a 1, a 11, a 171, a 175, a 176] : List Nat) → H[q]? = H0[q]? := hF
  obtain ⟨hx, hb, hr, hml, hown0, hts, hX, hbl, hlocks, hgv⟩ := id C0
  have hb : c.code = cL_law := hb
  have hown : s.vm.findClass RL = some m.cls := hown0
  have hwd : ∀ wd ∈ wsL_law, wd.before #[Value.ref b] s = true := fun w h => hts w (wsL_law_in w h)
  have hA : ∀ q : Nat, s.heap.size ≤ q → (fun q : Nat => s.heap.size ≤ q) q := fun _ h => h
  have hbA : ¬ (fun q : Nat => s.heap.size ≤ q) b := Nat.not_le.mpr hbl
  clear hgv hts
  have k1 : (1 : Int32).toInt = 1 := by decide
  have k2 : (2 : Int32).toInt = 2 := by decide
  have k3 : (3 : Int32).toInt = 3 := by decide
  have k4 : (4 : Int32).toInt = 4 := by decide
  have k5 : (5 : Int32).toInt = 5 := by decide
  have k6 : (6 : Int32).toInt = 6 := by decide
  refine lv_aload_n hx hb dL_law_240 rfl (lv_at hl 1 rfl) ?_
  refine lv_aload_n hx hb dL_law_241 rfl (lv_at hl 0 rfl) ?_
  refine lv_iload_n hx hb dL_law_242 rfl (lv_at hl 3 rfl) ?_
  refine lv_iconst (v := 1) hx hb dL_law_243 (by decide) ?_
  refine lv_iadd hx hb dL_law_244 ?_
  refine lv_topi (fun x1 ex1 => ?_)
  have tx1 := ia_add (a := w3) (b := (1 : Int32)) (by omega) (by omega)
  rw [← ex1] at tx1
  refine va_sld hx hb hX hbl hbA hS (vp_of (by omega) (by omega)) dL_law_245 ?_
  refine lv_topi (fun x2 ex2 => ?_)
  refine lv_aload_n hx hb dL_law_246 rfl (lv_at hl 0 rfl) ?_
  refine lv_iload_n hx hb dL_law_247 rfl (lv_at hl 3 rfl) ?_
  refine lv_iconst (v := 2) hx hb dL_law_248 (by decide) ?_
  refine lv_iadd hx hb dL_law_249 ?_
  refine lv_topi (fun x3 ex3 => ?_)
  have tx3 := ia_add (a := w3) (b := (2 : Int32)) (by omega) (by omega)
  rw [← ex3] at tx3
  refine va_sld hx hb hX hbl hbA hS (vp_of (by omega) (by omega)) dL_law_250 ?_
  refine lv_topi (fun x4 ex4 => ?_)
  refine lv_aload_n hx hb dL_law_251 rfl (lv_at hl 0 rfl) ?_
  refine lv_iload_n hx hb dL_law_252 rfl (lv_at hl 3 rfl) ?_
  refine lv_iconst (v := 3) hx hb dL_law_253 (by decide) ?_
  refine lv_iadd hx hb dL_law_254 ?_
  refine lv_topi (fun x5 ex5 => ?_)
  have tx5 := ia_add (a := w3) (b := (3 : Int32)) (by omega) (by omega)
  rw [← ex5] at tx5
  refine va_sld hx hb hX hbl hbA hS (vp_of (by omega) (by omega)) dL_law_255 ?_
  refine lv_topi (fun x6 ex6 => ?_)
  refine lv_aload_n hx hb dL_law_256 rfl (lv_at hl 0 rfl) ?_
  refine lv_iload_n hx hb dL_law_257 rfl (lv_at hl 3 rfl) ?_
  refine lv_iconst (v := 4) hx hb dL_law_258 (by decide) ?_
  refine lv_iadd hx hb dL_law_259 ?_
  refine lv_topi (fun x7 ex7 => ?_)
  have tx7 := ia_add (a := w3) (b := (4 : Int32)) (by omega) (by omega)
  rw [← ex7] at tx7
  refine va_sld hx hb hX hbl hbA hS (vp_of (by omega) (by omega)) dL_law_260 ?_
  refine lv_topi (fun x8 ex8 => ?_)
  refine lv_aload_n hx hb dL_law_261 rfl (lv_at hl 0 rfl) ?_
  refine lv_iload_n hx hb dL_law_262 rfl (lv_at hl 3 rfl) ?_
  refine lv_iconst (v := 5) hx hb dL_law_263 (by decide) ?_
  refine lv_iadd hx hb dL_law_264 ?_
  refine lv_topi (fun x9 ex9 => ?_)
  have tx9 := ia_add (a := w3) (b := (5 : Int32)) (by omega) (by omega)
  rw [← ex9] at tx9
  refine va_sld hx hb hX hbl hbA hS (vp_of (by omega) (by omega)) dL_law_265 ?_
  refine lv_topi (fun x10 ex10 => ?_)
  have hPc := hP.sub (ws' := [(a 0, .inr (11, [.ref (a 1), .ref (a 2), .ref (a 3), .ref (a 4), .ref (a 5), .ref (a 6), .ref (a 7), .ref (a 8), .ref (a 9), .ref (a 10)])), (a 1, .inr (10, [.ref (a 11), .int (u 0), .int (u 1), .int (u 2), .int (u 3), .int (u 4), .int (u 5), .int (u 6)])), (a 11, .inl (cB, 1600, .inl (F 0)))]) [0, 1, 2] rfl
  have hDc := hD.sub (ws' := [(a 0, .inr (11, [.ref (a 1), .ref (a 2), .ref (a 3), .ref (a 4), .ref (a 5), .ref (a 6), .ref (a 7), .ref (a 8), .ref (a 9), .ref (a 10)])), (a 1, .inr (10, [.ref (a 11), .int (u 0), .int (u 1), .int (u 2), .int (u 3), .int (u 4), .int (u 5), .int (u 6)])), (a 11, .inl (cB, 1600, .inl (F 0)))]) [0, 1, 2] (by decide) rfl
  have hFc := va_free (wc := [(a 0, .inr (11, [.ref (a 1), .ref (a 2), .ref (a 3), .ref (a 4), .ref (a 5), .ref (a 6), .ref (a 7), .ref (a 8), .ref (a 9), .ref (a 10)])), (a 1, .inr (10, [.ref (a 11), .int (u 0), .int (u 1), .int (u 2), .int (u 3), .int (u 4), .int (u 5), .int (u 6)])), (a 11, .inl (cB, 1600, .inl (F 0)))]) hD hS hA [0, 1, 2] rfl
  refine va_calli (va_runV (As := [.int x2, .int x4, .int x6, .int x8, .int x10]) (rest := []) ⟨hx, hb, hml, hown, hwd⟩ (s_X11_feed l dC dI cI cZ cB cJ cM cG (a 0) (a 1) (a 2) (a 3) (a 4) (a 5) (a 6) (a 7) (a 8) (a 9) (a 10) (a 11) (u 0) (u 1) (u 2) (u 3) (u 4) (u 5) (u 6) (F 0) x2 x4 x6 x8 x10 H.size (show (0 : Int) ≤ (u 0).toInt ∧ (u 0).toInt ≤ 1600 from p_0) (show (0 : Int) ≤ (u 4).toInt ∧ (u 4).toInt ≤ 1600 from p_1) (show (0 : Int) ≤ (u 5).toInt ∧ (u 5).toInt ≤ 1600 from p_2)) (cwV 5 hwd (gV kr8_7 kr8_8 kr8_9 kr1_2 kr8_10) rfl rfl rfl (by decide +kernel) ⟨Nat.le_of_ble_eq_true rfl, Nat.le_of_ble_eq_true rfl⟩) (kPreV hPc hK hDc (ci := 11) (q0 := 0) rfl rfl) rfl rfl hl.1 rfl (lv_room (Nat.le_of_ble_eq_true rfl)) dL_law_266 ⟨Nat.le_of_ble_eq_true rfl, Nat.le_of_ble_eq_true rfl⟩) hS (fun q _ h => hFc q h) hFc (fun r11 u12 t H1 locs ht9 hvm hw hB hz1 hk1 hS => ?_)
  obtain ⟨u13, U13, V13⟩ := u12
  obtain ⟨hw14, hw15, -⟩ := hw
  replace hw14 : (-1 : Int) ≤ r11.toInt ∧ r11.toInt ≤ 1600 := hw14
  replace hw15 : (0 : Int) ≤ (u13 0).toInt ∧ (u13 0).toInt ≤ 1600 := hw15
  obtain ⟨hP1, hD1⟩ := hB
  rw [ht9] at hP1
  obtain ⟨hF, hZ⟩ := fr_step hF hZ hz1 [0, 1, 2] rfl hk1
  obtain ⟨hP, hD⟩ := va_join (wr := [(a 171, .inr (12, [.int (u 117), .ref (a 172), .ref (a 173), .ref (a 174), .ref (a 175), .int (u 118), .ref (a 176), .int (u 119), .int (u 120), .int (u 121), .int (u 122), .int (u 123), .int (u 124), .int (u 125), .ref (a 177), .ref (a 178), .ref (a 179), .ref (a 180), .ref (a 181), .ref (a 182), .ref (a 183), .int (u 126), .ref (a 184), .int (u 127), .ref (a 185), .ref (a 186), .int (u 128), .ref (a 187), .ref (a 188), .ref (a 189), .ref (a 190), .int (u 129), .int (u 130), .int (u 131), .int (u 132), .int (u 133), .ref (a 191), .long j, .ref (a 192), .ref (a 193), .ref (a 194), .ref (a 195)])), (a 175, .inl (cB, 1600, .inl (F 139))), (a 176, .inl (cI, 5, .inl (F 140)))]) (w1 := [(a 0, .inr (11, [.ref (a 1), .ref (a 2), .ref (a 3), .ref (a 4), .ref (a 5), .ref (a 6), .ref (a 7), .ref (a 8), .ref (a 9), .ref (a 10)])), (a 1, .inr (10, [.ref (a 11), .int (u13 0), .int (u 1), .int (u 2), .int (u 3), .int (u 4), .int (u 5), .int (u 6)])), (a 11, .inl (cB, 1600, .inl (U13 0)))]) hP hD [0, 1, 2] [3, 4, 5] rfl rfl (by decide +kernel) (by decide +kernel) hk1 hFc hP1 hD1
  generalize H1 = H at hP hS hF hZ ⊢
  replace hP : va_P (dC, dI) vwCl [(a 171, .inr (12, [.int (u 117), .ref (a 172), .ref (a 173), .ref (a 174), .ref (a 175), .int (u 118), .ref (a 176), .int (u 119), .int (u 120), .int (u 121), .int (u 122), .int (u 123), .int (u 124), .int (u 125), .ref (a 177), .ref (a 178), .ref (a 179), .ref (a 180), .ref (a 181), .ref (a 182), .ref (a 183), .int (u 126), .ref (a 184), .int (u 127), .ref (a 185), .ref (a 186), .int (u 128), .ref (a 187), .ref (a 188), .ref (a 189), .ref (a 190), .int (u 129), .int (u 130), .int (u 131), .int (u 132), .int (u 133), .ref (a 191), .long j, .ref (a 192), .ref (a 193), .ref (a 194), .ref (a 195)])), (a 175, .inl (cB, 1600, .inl (F 139))), (a 176, .inl (cI, 5, .inl (F 140))), (a 0, .inr (11, [.ref (a 1), .ref (a 2), .ref (a 3), .ref (a 4), .ref (a 5), .ref (a 6), .ref (a 7), .ref (a 8), .ref (a 9), .ref (a 10)])), (a 1, .inr (10, [.ref (a 11), .int (u13 0), .int (u 1), .int (u 2), .int (u 3), .int (u 4), .int (u 5), .int (u 6)])), (a 11, .inl (cB, 1600, .inl (U13 0)))] H := hP
  replace hD : va_D (fun q : Nat => s.heap.size ≤ q) [(a 171, .inr (12, [.int (u 117), .ref (a 172), .ref (a 173), .ref (a 174), .ref (a 175), .int (u 118), .ref (a 176), .int (u 119), .int (u 120), .int (u 121), .int (u 122), .int (u 123), .int (u 124), .int (u 125), .ref (a 177), .ref (a 178), .ref (a 179), .ref (a 180), .ref (a 181), .ref (a 182), .ref (a 183), .int (u 126), .ref (a 184), .int (u 127), .ref (a 185), .ref (a 186), .int (u 128), .ref (a 187), .ref (a 188), .ref (a 189), .ref (a 190), .int (u 129), .int (u 130), .int (u 131), .int (u 132), .int (u 133), .ref (a 191), .long j, .ref (a 192), .ref (a 193), .ref (a 194), .ref (a 195)])), (a 175, .inl (cB, 1600, .inl (F 139))), (a 176, .inl (cI, 5, .inl (F 140))), (a 0, .inr (11, [.ref (a 1), .ref (a 2), .ref (a 3), .ref (a 4), .ref (a 5), .ref (a 6), .ref (a 7), .ref (a 8), .ref (a 9), .ref (a 10)])), (a 1, .inr (10, [.ref (a 11), .int (u13 0), .int (u 1), .int (u 2), .int (u 3), .int (u 4), .int (u 5), .int (u 6)])), (a 11, .inl (cB, 1600, .inl (U13 0)))] := hD
  refine lv_pop hx hb dL_law_269 rfl ?_
  refine lv_aload_n hx hb dL_law_270 rfl (lv_at hl 2 rfl) ?_
  refine lv_aload_n hx hb dL_law_271 rfl (lv_at hl 0 rfl) ?_
  refine lv_iload_n hx hb dL_law_272 rfl (lv_at hl 3 rfl) ?_
  refine lv_iconst (v := 1) hx hb dL_law_273 (by decide) ?_
  refine lv_iadd hx hb dL_law_274 ?_
  refine lv_topi (fun x16 ex16 => ?_)
  have tx16 := ia_add (a := w3) (b := (1 : Int32)) (by omega) (by omega)
  rw [← ex16] at tx16
  refine va_sld hx hb hX hbl hbA hS (vp_of (by omega) (by omega)) dL_law_275 ?_
  refine lv_topi (fun x17 ex17 => ?_)
  refine lv_aload_n hx hb dL_law_276 rfl (lv_at hl 0 rfl) ?_
  refine lv_iload_n hx hb dL_law_277 rfl (lv_at hl 3 rfl) ?_
  refine lv_iconst (v := 2) hx hb dL_law_278 (by decide) ?_
  refine lv_iadd hx hb dL_law_279 ?_
  refine lv_topi (fun x18 ex18 => ?_)
  have tx18 := ia_add (a := w3) (b := (2 : Int32)) (by omega) (by omega)
  rw [← ex18] at tx18
  refine va_sld hx hb hX hbl hbA hS (vp_of (by omega) (by omega)) dL_law_280 ?_
  refine lv_topi (fun x19 ex19 => ?_)
  refine lv_aload_n hx hb dL_law_281 rfl (lv_at hl 0 rfl) ?_
  refine lv_iload_n hx hb dL_law_282 rfl (lv_at hl 3 rfl) ?_
  refine lv_iconst (v := 3) hx hb dL_law_283 (by decide) ?_
  refine lv_iadd hx hb dL_law_284 ?_
  refine lv_topi (fun x20 ex20 => ?_)
  have tx20 := ia_add (a := w3) (b := (3 : Int32)) (by omega) (by omega)
  rw [← ex20] at tx20
  refine va_sld hx hb hX hbl hbA hS (vp_of (by omega) (by omega)) dL_law_285 ?_
  refine lv_topi (fun x21 ex21 => ?_)
  refine lv_aload_n hx hb dL_law_286 rfl (lv_at hl 0 rfl) ?_
  refine lv_iload_n hx hb dL_law_287 rfl (lv_at hl 3 rfl) ?_
  refine lv_iconst (v := 4) hx hb dL_law_288 (by decide) ?_
  refine lv_iadd hx hb dL_law_289 ?_
  refine lv_topi (fun x22 ex22 => ?_)
  have tx22 := ia_add (a := w3) (b := (4 : Int32)) (by omega) (by omega)
  rw [← ex22] at tx22
  refine va_sld hx hb hX hbl hbA hS (vp_of (by omega) (by omega)) dL_law_290 ?_
  refine lv_topi (fun x23 ex23 => ?_)
  refine lv_aload_n hx hb dL_law_291 rfl (lv_at hl 0 rfl) ?_
  refine lv_iload_n hx hb dL_law_292 rfl (lv_at hl 3 rfl) ?_
  refine lv_iconst (v := 5) hx hb dL_law_293 (by decide) ?_
  refine lv_iadd hx hb dL_law_294 ?_
  refine lv_topi (fun x24 ex24 => ?_)
  have tx24 := ia_add (a := w3) (b := (5 : Int32)) (by omega) (by omega)
  rw [← ex24] at tx24
  refine va_sld hx hb hX hbl hbA hS (vp_of (by omega) (by omega)) dL_law_295 ?_
  refine lv_topi (fun x25 ex25 => ?_)
  have hPc := hP.sub (ws' := [(a 171, .inr (12, [.int (u 117), .ref (a 172), .ref (a 173), .ref (a 174), .ref (a 175), .int (u 118), .ref (a 176), .int (u 119), .int (u 120), .int (u 121), .int (u 122), .int (u 123), .int (u 124), .int (u 125), .ref (a 177), .ref (a 178), .ref (a 179), .ref (a 180), .ref (a 181), .ref (a 182), .ref (a 183), .int (u 126), .ref (a 184), .int (u 127), .ref (a 185), .ref (a 186), .int (u 128), .ref (a 187), .ref (a 188), .ref (a 189), .ref (a 190), .int (u 129), .int (u 130), .int (u 131), .int (u 132), .int (u 133), .ref (a 191), .long j, .ref (a 192), .ref (a 193), .ref (a 194), .ref (a 195)])), (a 175, .inl (cB, 1600, .inl (F 139))), (a 176, .inl (cI, 5, .inl (F 140)))]) [0, 1, 2] rfl
  have hDc := hD.sub (ws' := [(a 171, .inr (12, [.int (u 117), .ref (a 172), .ref (a 173), .ref (a 174), .ref (a 175), .int (u 118), .ref (a 176), .int (u 119), .int (u 120), .int (u 121), .int (u 122), .int (u 123), .int (u 124), .int (u 125), .ref (a 177), .ref (a 178), .ref (a 179), .ref (a 180), .ref (a 181), .ref (a 182), .ref (a 183), .int (u 126), .ref (a 184), .int (u 127), .ref (a 185), .ref (a 186), .int (u 128), .ref (a 187), .ref (a 188), .ref (a 189), .ref (a 190), .int (u 129), .int (u 130), .int (u 131), .int (u 132), .int (u 133), .ref (a 191), .long j, .ref (a 192), .ref (a 193), .ref (a 194), .ref (a 195)])), (a 175, .inl (cB, 1600, .inl (F 139))), (a 176, .inl (cI, 5, .inl (F 140)))]) [0, 1, 2] (by decide) rfl
  have hFc := va_free (wc := [(a 171, .inr (12, [.int (u 117), .ref (a 172), .ref (a 173), .ref (a 174), .ref (a 175), .int (u 118), .ref (a 176), .int (u 119), .int (u 120), .int (u 121), .int (u 122), .int (u 123), .int (u 124), .int (u 125), .ref (a 177), .ref (a 178), .ref (a 179), .ref (a 180), .ref (a 181), .ref (a 182), .ref (a 183), .int (u 126), .ref (a 184), .int (u 127), .ref (a 185), .ref (a 186), .int (u 128), .ref (a 187), .ref (a 188), .ref (a 189), .ref (a 190), .int (u 129), .int (u 130), .int (u 131), .int (u 132), .int (u 133), .ref (a 191), .long j, .ref (a 192), .ref (a 193), .ref (a 194), .ref (a 195)])), (a 175, .inl (cB, 1600, .inl (F 139))), (a 176, .inl (cI, 5, .inl (F 140)))]) hD hS hA [0, 1, 2] rfl
  refine va_calli (va_runV (As := [.int x17, .int x19, .int x21, .int x23, .int x25]) (rest := []) ⟨hx, hb, hml, hown, hwd⟩ (s_X12_feed l dC dI cI cZ cB cJ cM cG (a 171) (a 172) (a 173) (a 174) (a 175) (a 176) (a 177) (a 178) (a 179) (a 180) (a 181) (a 182) (a 183) (a 184) (a 185) (a 186) (a 187) (a 188) (a 189) (a 190) (a 191) (a 192) (a 193) (a 194) (a 195) (u 117) (u 118) (u 119) (u 120) (u 121) (u 122) (u 123) (u 124) (u 125) (u 126) (u 127) (u 128) (u 129) (u 130) (u 131) (u 132) (u 133) j (F 139) (F 140) x17 x19 x21 x23 x25 H.size (show (0 : Int) ≤ (u 118).toInt ∧ (u 118).toInt ≤ 1600 from p_64) (show (0 : Int) ≤ (u 119).toInt ∧ (u 119).toInt ≤ 1600 from p_65) (show (0 : Int) ≤ (u 120).toInt ∧ (u 120).toInt ≤ 1600 from p_66) (show (0 : Int) ≤ (u 121).toInt ∧ (u 121).toInt ≤ 1600 from p_67) (show (0 : Int) ≤ (u 122).toInt ∧ (u 122).toInt ≤ 6 from p_68) (show (0 : Int) ≤ (u 124).toInt ∧ (u 124).toInt ≤ 3 from p_69) (show (0 : Int) ≤ (u 128).toInt ∧ (u 128).toInt ≤ 59 from p_70)) (cwV 5 hwd (gV kr8_21 kr8_22 kr8_23 kr1_5 kr9_0) rfl rfl rfl (by decide +kernel) ⟨Nat.le_of_ble_eq_true rfl, Nat.le_of_ble_eq_true rfl⟩) (kPreV hPc hK hDc (ci := 12) (q0 := 0) rfl rfl) rfl rfl hl.1 rfl (lv_room (Nat.le_of_ble_eq_true rfl)) dL_law_296 ⟨Nat.le_of_ble_eq_true rfl, Nat.le_of_ble_eq_true rfl⟩) hS (fun q _ h => hFc q h) hFc (fun r26 u27 t H1 locs ht9 hvm hw hB hz1 hk1 hS => ?_)
  obtain ⟨u28, U28, V28⟩ := u27
  obtain ⟨hw29, hw30, -⟩ := hw
  replace hw29 : (-1 : Int) ≤ r26.toInt ∧ r26.toInt ≤ 1600 := hw29
  replace hw30 : (0 : Int) ≤ (u28 0).toInt ∧ (u28 0).toInt ≤ 1600 := hw30
  obtain ⟨hP1, hD1⟩ := hB
  rw [ht9] at hP1
  obtain ⟨hF, hZ⟩ := fr_step hF hZ hz1 [3, 4, 5] rfl hk1
  obtain ⟨hP, hD⟩ := va_join (wr := [(a 0, .inr (11, [.ref (a 1), .ref (a 2), .ref (a 3), .ref (a 4), .ref (a 5), .ref (a 6), .ref (a 7), .ref (a 8), .ref (a 9), .ref (a 10)])), (a 1, .inr (10, [.ref (a 11), .int (u13 0), .int (u 1), .int (u 2), .int (u 3), .int (u 4), .int (u 5), .int (u 6)])), (a 11, .inl (cB, 1600, .inl (U13 0)))]) (w1 := [(a 171, .inr (12, [.int (u 117), .ref (a 172), .ref (a 173), .ref (a 174), .ref (a 175), .int (u28 0), .ref (a 176), .int (u 119), .int (u 120), .int (u 121), .int (u 122), .int (u 123), .int (u 124), .int (u 125), .ref (a 177), .ref (a 178), .ref (a 179), .ref (a 180), .ref (a 181), .ref (a 182), .ref (a 183), .int (u 126), .ref (a 184), .int (u 127), .ref (a 185), .ref (a 186), .int (u 128), .ref (a 187), .ref (a 188), .ref (a 189), .ref (a 190), .int (u 129), .int (u 130), .int (u 131), .int (u 132), .int (u 133), .ref (a 191), .long j, .ref (a 192), .ref (a 193), .ref (a 194), .ref (a 195)])), (a 175, .inl (cB, 1600, .inl (U28 0))), (a 176, .inl (cI, 5, .inl (U28 1)))]) hP hD [0, 1, 2] [3, 4, 5] rfl rfl (by decide +kernel) (by decide +kernel) hk1 hFc hP1 hD1
  generalize H1 = H at hP hS hF hZ ⊢
  replace hP : va_P (dC, dI) vwCl [(a 0, .inr (11, [.ref (a 1), .ref (a 2), .ref (a 3), .ref (a 4), .ref (a 5), .ref (a 6), .ref (a 7), .ref (a 8), .ref (a 9), .ref (a 10)])), (a 1, .inr (10, [.ref (a 11), .int (u13 0), .int (u 1), .int (u 2), .int (u 3), .int (u 4), .int (u 5), .int (u 6)])), (a 11, .inl (cB, 1600, .inl (U13 0))), (a 171, .inr (12, [.int (u 117), .ref (a 172), .ref (a 173), .ref (a 174), .ref (a 175), .int (u28 0), .ref (a 176), .int (u 119), .int (u 120), .int (u 121), .int (u 122), .int (u 123), .int (u 124), .int (u 125), .ref (a 177), .ref (a 178), .ref (a 179), .ref (a 180), .ref (a 181), .ref (a 182), .ref (a 183), .int (u 126), .ref (a 184), .int (u 127), .ref (a 185), .ref (a 186), .int (u 128), .ref (a 187), .ref (a 188), .ref (a 189), .ref (a 190), .int (u 129), .int (u 130), .int (u 131), .int (u 132), .int (u 133), .ref (a 191), .long j, .ref (a 192), .ref (a 193), .ref (a 194), .ref (a 195)])), (a 175, .inl (cB, 1600, .inl (U28 0))), (a 176, .inl (cI, 5, .inl (U28 1)))] H := hP
  replace hD : va_D (fun q : Nat => s.heap.size ≤ q) [(a 0, .inr (11, [.ref (a 1), .ref (a 2), .ref (a 3), .ref (a 4), .ref (a 5), .ref (a 6), .ref (a 7), .ref (a 8), .ref (a 9), .ref (a 10)])), (a 1, .inr (10, [.ref (a 11), .int (u13 0), .int (u 1), .int (u 2), .int (u 3), .int (u 4), .int (u 5), .int (u 6)])), (a 11, .inl (cB, 1600, .inl (U13 0))), (a 171, .inr (12, [.int (u 117), .ref (a 172), .ref (a 173), .ref (a 174), .ref (a 175), .int (u28 0), .ref (a 176), .int (u 119), .int (u 120), .int (u 121), .int (u 122), .int (u 123), .int (u 124), .int (u 125), .ref (a 177), .ref (a 178), .ref (a 179), .ref (a 180), .ref (a 181), .ref (a 182), .ref (a 183), .int (u 126), .ref (a 184), .int (u 127), .ref (a 185), .ref (a 186), .int (u 128), .ref (a 187), .ref (a 188), .ref (a 189), .ref (a 190), .int (u 129), .int (u 130), .int (u 131), .int (u 132), .int (u 133), .ref (a 191), .long j, .ref (a 192), .ref (a 193), .ref (a 194), .ref (a 195)])), (a 175, .inl (cB, 1600, .inl (U28 0))), (a 176, .inl (cI, 5, .inl (U28 1)))] := hD
  refine lv_pop hx hb dL_law_299 rfl ?_
  refine lv_goto (tgt := 1730) hx hb dL_law_300 (by decide) ?_
  obtain ⟨x9, ex9⟩ : ∃ y : Int32, y = w3 + 6 := ⟨_, rfl⟩
  refine lv_iinc (v := x9) (lv' := [(3, .int x9), (0, .ref b), (1, .ref (a 0)), (2, .ref (a 171))]) hx hb dL_law_1730 hl (k := 3) rfl (by rw [ex9]; rfl) (by decide) rfl (fun ls hl => ?_)
  have tx9 := ia_add (a := w3) (b := (6 : Int32)) (by omega) (by omega)
  rw [← ex9] at tx9
  refine lv_goto (tgt := 18) hx hb dL_law_1733 (by decide) ?_
  have hP9 := hP.sub (ws' := [(a 0, .inr (11, [.ref (a 1), .ref (a 2), .ref (a 3), .ref (a 4), .ref (a 5), .ref (a 6), .ref (a 7), .ref (a 8), .ref (a 9), .ref (a 10)])), (a 1, .inr (10, [.ref (a 11), .int (u13 0), .int (u 1), .int (u 2), .int (u 3), .int (u 4), .int (u 5), .int (u 6)])), (a 11, .inl (cB, 1600, .inl (U13 0))), (a 171, .inr (12, [.int (u 117), .ref (a 172), .ref (a 173), .ref (a 174), .ref (a 175), .int (u28 0), .ref (a 176), .int (u 119), .int (u 120), .int (u 121), .int (u 122), .int (u 123), .int (u 124), .int (u 125), .ref (a 177), .ref (a 178), .ref (a 179), .ref (a 180), .ref (a 181), .ref (a 182), .ref (a 183), .int (u 126), .ref (a 184), .int (u 127), .ref (a 185), .ref (a 186), .int (u 128), .ref (a 187), .ref (a 188), .ref (a 189), .ref (a 190), .int (u 129), .int (u 130), .int (u 131), .int (u 132), .int (u 133), .ref (a 191), .long j, .ref (a 192), .ref (a 193), .ref (a 194), .ref (a 195)])), (a 175, .inl (cB, 1600, .inl (U28 0))), (a 176, .inl (cI, 5, .inl (U28 1)))]) [0, 1, 2, 3, 4, 5] rfl
  have hD9 := hD.sub (ws' := [(a 0, .inr (11, [.ref (a 1), .ref (a 2), .ref (a 3), .ref (a 4), .ref (a 5), .ref (a 6), .ref (a 7), .ref (a 8), .ref (a 9), .ref (a 10)])), (a 1, .inr (10, [.ref (a 11), .int (u13 0), .int (u 1), .int (u 2), .int (u 3), .int (u 4), .int (u 5), .int (u 6)])), (a 11, .inl (cB, 1600, .inl (U13 0))), (a 171, .inr (12, [.int (u 117), .ref (a 172), .ref (a 173), .ref (a 174), .ref (a 175), .int (u28 0), .ref (a 176), .int (u 119), .int (u 120), .int (u 121), .int (u 122), .int (u 123), .int (u 124), .int (u 125), .ref (a 177), .ref (a 178), .ref (a 179), .ref (a 180), .ref (a 181), .ref (a 182), .ref (a 183), .int (u 126), .ref (a 184), .int (u 127), .ref (a 185), .ref (a 186), .int (u 128), .ref (a 187), .ref (a 188), .ref (a 189), .ref (a 190), .int (u 129), .int (u 130), .int (u 131), .int (u 132), .int (u 133), .ref (a 191), .long j, .ref (a 192), .ref (a 193), .ref (a 194), .ref (a 195)])), (a 175, .inl (cB, 1600, .inl (U28 0))), (a 176, .inl (cI, 5, .inl (U28 1)))]) [0, 1, 2, 3, 4, 5] (by decide +kernel) rfl
  exact hk _ _ ls x9 (updG (updG u 0 (u13 0)) 118 (u28 0)) (updR (updG F 0 (U13 0)) 139 2 (fun k => U28 (k - 139 + 0))) G j hP9 hD9 hF hZ hS (lv_sub hl [1, 2, 3, 0] rfl) tx9 (show (0 : Int) ≤ (u13 0).toInt ∧ (u13 0).toInt ≤ 1600 from hw15) p_1 p_2 (show (0 : Int) ≤ (u28 0).toInt ∧ (u28 0).toInt ≤ 1600 from hw30) p_65 p_66 p_67 p_68 p_69 p_70
def M_0 : List Bool := [true, true, true, false, false, false, false, false, false, false, false, false, false, false, false, false, false, false, false, false, false, false, false, false, false, false, false, false, false, false, false, false, false, false, false, false, false, false, false, false, false, false, false, false, false, false, false, false, false, false, false, false, false, false, false, false, false, false, false, false, false, false, false, false, false, false, false, false, false, false, false, false, false, false, false, false, false, false, false, false, false, false, false, false, false, false, false, false, false, false, false, false, false, false, false, false, false, false, false, false, false, false, false, false, false, false, false, false, false, false, false, false, false, false, false, false, false, false, false, false, false, false, false, false, false, false, false, false, false, false, false, false, false, false, false, false, false, false, false, false, false, false, false, false, false, false, false, false, false, false, false, false, false, false, false, false, false, false, false, false, false, false, false, false, false, false, false, false, false, false, false, true, false, false, false, true, true]
set_option maxHeartbeats 16000000 in
set_option maxRecDepth 100000 in
theorem ldisp_0 {p : Program} {l : Launch} {e : Env} {s : State} {m : MethodId} {below : List Frame} {meth : Method} {c : Code} {b L : Nat} {xs : Nat → Int32} {dC : Nat → ClassId} {dI : Nat → Nat → Nat} {cI cZ cB cJ cM cG : ClassId} {a : Nat → Nat} {u : Nat → Int32} {F : Nat → Nat → Int32} {G : Nat → Nat → Int64} {j : Int64} {H : Heap} {locs : List Loc} {ls : Array Slot} {w3 : Int32} {d : Nat} (C0 : lw_At p s m meth c b L xs) (hL : L ≤ 384) (hN : NT (fun q : Nat => s.heap.size ≤ q) s) (hK : va_K (dC, dI) vwCl [(cI, .int), (cZ, .boolean), (cB, .byte), (cJ, .long), (cM, .object RX2), (cG, .array .int)] s) (hk : LInv p l e s m below meth c b L xs dC dI cI cZ cB cJ cM cG d) (hP : va_P (dC, dI) vwCl (LW cI cZ cB cJ cM cG a u F G j) H) (hD : va_D (fun q : Nat => s.heap.size ≤ q) (LW cI cZ cB cJ cM cG a u F G j)) (hS : va_S (fun q : Nat => s.heap.size ≤ q) s.heap H locs) (hl : lv_has ls 4 [(0, .ref b), (1, .ref (a 0)), (2, .ref (a 171)), (3, .int w3)]) (hi0 : 0 ≤ w3.toInt) (hi6 : w3.toInt + 6 ≤ (L : Int)) (hp : LPr u F w3) (hm : (400 - w3.toInt).toNat < d + 1) : W p l e room_1 s m #[Value.ref b] below meth c H locs 600000 7302250 (lw_Z below #[Value.ref b] s) (F0 m 240 ls []) := by
  unfold LPr at hp
  obtain ⟨p_0, p_1, p_2, p_3, p_4, p_5, p_6, p_7, p_8, p_9, p_10, p_11, p_12, p_13, p_14, p_15, p_16, p_17, p_18, p_19, p_20, p_21, p_22, p_23, p_24, p_25, p_26, p_27, p_28, p_29, p_30, p_31, p_32, p_33, p_34, p_35, p_36, p_37, p_38, p_39, p_40, p_41, p_42, p_43, p_44, p_45, p_46, p_47, p_48, p_49, p_50, p_51, p_52, p_53, p_54, p_55, p_56, p_57, p_58, p_59, p_60, p_61, p_62, p_63, p_64, p_65, p_66, p_67, p_68, p_69, p_70, p_71, p_72, p_73, p_74, p_75, p_76⟩ := hp
  have k6 : (6 : Int32).toInt = 6 := by decide
  have hPN : va_P (dC, dI) vwCl (CW_0 cI cZ cB cJ cM cG a u F G j) H := P_pk M_0 hP
  have hDN : va_D (fun q : Nat => s.heap.size ≤ q) (CW_0 cI cZ cB cJ cM cG a u F G j) := D_pk M_0 hD
  refine lcase_0 a u F G j C0 hL hN hK hPN hDN (fun _ _ _ => rfl) (Nat.le_refl _) hS hl hi0 hi6 p_0 p_1 p_2 p_64 p_65 p_66 p_67 p_68 p_69 p_70 (fun H9 locs9 ls9 x9 u9 F9 G9 j9 hP9 hD9 hF9 hZ9 hS9 hl9 e9 q_0 q_1 q_2 q_64 q_65 q_66 q_67 q_68 q_69 q_70 => ?_)
  have hP7 : va_P (dC, dI) vwCl (LW cI cZ cB cJ cM cG a (mx 21777905329440588547171861899750630490239 u9 u) (mx 2090694862362245919518973588060783891185665 F9 F) (mx 0 G9 G) j9) H9 := back_pk M_0 hP hD hP9 rfl rfl rfl hF9
  have hD7 : va_D (fun q : Nat => s.heap.size ≤ q) (LW cI cZ cB cJ cM cG a (mx 21777905329440588547171861899750630490239 u9 u) (mx 2090694862362245919518973588060783891185665 F9 F) (mx 0 G9 G) j9) := D_congr (by rw [LW_fst, LW_fst]) hD
  exact hk H9 locs9 ls9 x9 a (mx 21777905329440588547171861899750630490239 u9 u) (mx 2090694862362245919518973588060783891185665 F9 F) (mx 0 G9 G) j9 hP7 hD7 hS9 hl9 (by omega) (by omega) ⟨q_0, q_1, q_2, p_3, p_4, p_5, p_6, p_7, p_8, p_9, p_10, p_11, p_12, p_13, p_14, p_15, p_16, p_17, p_18, p_19, p_20, p_21, p_22, p_23, p_24, p_25, p_26, p_27, p_28, p_29, p_30, p_31, p_32, p_33, p_34, p_35, p_36, p_37, p_38, p_39, p_40, p_41, p_42, p_43, p_44, p_45, p_46, p_47, p_48, p_49, p_50, p_51, p_52, p_53, p_54, p_55, p_56, p_57, p_58, p_59, p_60, p_61, p_62, p_63, q_64, q_65, q_66, q_67, q_68, q_69, q_70, WI_mono p_71 (by omega), p_72, p_73, p_74, p_75, IMG_mono p_76 (by omega)⟩ (by omega)
