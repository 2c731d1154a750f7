set_option maxHeartbeats 4000000 in
set_option maxRecDepth 100000 in
theorem law_0 {p : Program} {l : Launch} {e : Env} {s : State} {m : MethodId} {below : List Frame} {meth : Method} {c : Code} {b : Nat} {xs : Nat → Int32} {D : va_G} {k : Nat → ClassId} {a bb : Nat → Nat} (C0 : lw_At p s m meth c b 6 xs) (hN : NW s) (hK : va_K D vwCl (TYS k) s) {H : Heap} {locs : List Loc} (hP : va_P D vwCl (ALLW k a bb) H) (hD : va_D (fun q : Nat => s.heap.size ≤ q) (ALLW k a bb)) (hS : va_S (fun q : Nat => s.heap.size ≤ q) s.heap H locs) {ls : Array Slot} (hl : lv_has ls 4 [(0, .ref b), (1, .ref (a 0)), (2, .ref (bb 0)), (3, .int 0)]) : W p l e room_1 s m #[Value.ref b] below meth c H locs 66 21009 (lw_Z below #[Value.ref b] s) (F0 m 236 ls []) := by
  obtain ⟨hx, hb, hr, hml, hown, hts0, hX, hbl, hlocks, hgv⟩ := id C0
  have hA : ∀ q : Nat, s.heap.size ≤ q → (fun q : Nat => s.heap.size ≤ q) q := fun _ h => h
  have hbA : ¬ (fun q : Nat => s.heap.size ≤ q) b := Nat.not_le.mpr hbl
  refine lv_aload_n hx hb dL_law_236 rfl (lv_at hl 1 rfl) ?_
  refine lv_aload_n hx hb dL_law_237 rfl (lv_at hl 0 rfl) ?_
  refine lv_iload_n hx hb dL_law_238 rfl (lv_at hl 3 rfl) ?_
  refine lv_iconst (v := 1) hx hb dL_law_239 (by decide) ?_
  refine lv_iadd hx hb dL_law_240 ?_
  refine lv_topi (fun x1 ex1 => ?_)
  obtain rfl : x1 = 1 := ex1.trans (by decide)
  refine va_sld hx hb hX hbl hbA hS (vp_in_iff.mpr (by decide)) dL_law_241 ?_
  refine W.eq (g2 := F0 m 242 ls [.int (xs 1), .ref (a 0)]) rfl ?_
  refine lv_aload_n hx hb dL_law_242 rfl (lv_at hl 0 rfl) ?_
  refine lv_iload_n hx hb dL_law_243 rfl (lv_at hl 3 rfl) ?_
  refine lv_iconst (v := 2) hx hb dL_law_244 (by decide) ?_
  refine lv_iadd hx hb dL_law_245 ?_
  refine lv_topi (fun x2 ex2 => ?_)
  obtain rfl : x2 = 2 := ex2.trans (by decide)
  refine va_sld hx hb hX hbl hbA hS (vp_in_iff.mpr (by decide)) dL_law_246 ?_
  refine W.eq (g2 := F0 m 247 ls [.int (xs 2), .int (xs 1), .ref (a 0)]) rfl ?_
  refine lv_aload_n hx hb dL_law_247 rfl (lv_at hl 0 rfl) ?_
  refine lv_iload_n hx hb dL_law_248 rfl (lv_at hl 3 rfl) ?_
  refine lv_iconst (v := 3) hx hb dL_law_249 (by decide) ?_
  refine lv_iadd hx hb dL_law_250 ?_
  refine lv_topi (fun x3 ex3 => ?_)
  obtain rfl : x3 = 3 := ex3.trans (by decide)
  refine va_sld hx hb hX hbl hbA hS (vp_in_iff.mpr (by decide)) dL_law_251 ?_
  refine W.eq (g2 := F0 m 252 ls [.int (xs 3), .int (xs 2), .int (xs 1), .ref (a 0)]) rfl ?_
  refine lv_aload_n hx hb dL_law_252 rfl (lv_at hl 0 rfl) ?_
  refine lv_iload_n hx hb dL_law_253 rfl (lv_at hl 3 rfl) ?_
  refine lv_iconst (v := 4) hx hb dL_law_254 (by decide) ?_
  refine lv_iadd hx hb dL_law_255 ?_
  refine lv_topi (fun x4 ex4 => ?_)
  obtain rfl : x4 = 4 := ex4.trans (by decide)
  refine va_sld hx hb hX hbl hbA hS (vp_in_iff.mpr (by decide)) dL_law_256 ?_
  refine W.eq (g2 := F0 m 257 ls [.int (xs 4), .int (xs 3), .int (xs 2), .int (xs 1), .ref (a 0)]) rfl ?_
  refine lv_aload_n hx hb dL_law_257 rfl (lv_at hl 0 rfl) ?_
  refine lv_iload_n hx hb dL_law_258 rfl (lv_at hl 3 rfl) ?_
  refine lv_iconst (v := 5) hx hb dL_law_259 (by decide) ?_
  refine lv_iadd hx hb dL_law_260 ?_
  refine lv_topi (fun x5 ex5 => ?_)
  obtain rfl : x5 = 5 := ex5.trans (by decide)
  refine va_sld hx hb hX hbl hbA hS (vp_in_iff.mpr (by decide)) dL_law_261 ?_
  refine W.eq (g2 := F0 m 262 ls [.int (xs 5), .int (xs 4), .int (xs 3), .int (xs 2), .int (xs 1), .ref (a 0)]) rfl ?_
  have htc := fun w h => hts0 w (hwL_X11_feed w h)
  refine mvi (C := RX11) (As := [.int (xs 1), .int (xs 2), .int (xs 3), .int (xs 4), .int (xs 5)]) (rest := []) (wc := [e0 k a, e1 k a, e2 k a]) (wr := [e3 k a, e4 k a, e5 k a, e6 k a, e7 k a, e8 k a, e9 k a, e10 k a, e11 k a, e12 k a, e13 k a, e14 k a, e15 k a, e16 k a, e17 k a, e18 k a, e19 k a, e20 k a, e21 k a, e22 k a, e23 k a, e24 k a, e25 k a, e26 k a, e27 k a, e28 k a, e29 k a, e30 k a, e31 k a, e32 k a, e33 k a, e34 k a, e35 k a, e36 k a, e37 k a, e38 k a, e39 k a, e40 k a, e41 k a, e42 k a, e43 k a, e44 k a, e45 k a, e46 k a, e47 k a, m0 k bb, m1 k bb, m2 k bb, m3 k bb, m4 k bb, m5 k bb, m6 k bb, m7 k bb, m8 k bb, m9 k bb, m10 k bb, m11 k bb, m12 k bb, m13 k bb, m14 k bb, m15 k bb, m16 k bb, m17 k bb]) ⟨hx, hb, hml, hown, htc⟩ (fun sz => c_X11_feed l D k a (xs 1) (xs 2) (xs 3) (xs 4) (xs 5) sz) (cwV 5 htc gS_X11_feed rfl rfl rfl (by decide +kernel) ⟨Nat.le_of_ble_eq_true rfl, Nat.le_of_ble_eq_true rfl⟩) hP hK hD hN hS hA [0, 1, 2] [3, 4, 5, 6, 7, 8, 9, 10, 11, 12, 13, 14, 15, 16, 17, 18, 19, 20, 21, 22, 23, 24, 25, 26, 27, 28, 29, 30, 31, 32, 33, 34, 35, 36, 37, 38, 39, 40, 41, 42, 43, 44, 45, 46, 47, 48, 49, 50, 51, 52, 53, 54, 55, 56, 57, 58, 59, 60, 61, 62, 63, 64, 65] rfl rfl (by decide) rfl (by decide) (by decide) 0 rfl rfl rfl rfl hl.1 rfl (Nat.le_of_ble_eq_true rfl) dL_law_262 ⟨Nat.le_of_ble_eq_true rfl, Nat.le_of_ble_eq_true rfl⟩ (fun ru6 u6 H locs hu6 hP hD hS => ?_)
  have hP : va_P D vwCl [e3 k a, e4 k a, e5 k a, e6 k a, e7 k a, e8 k a, e9 k a, e10 k a, e11 k a, e12 k a, e13 k a, e14 k a, e15 k a, e16 k a, e17 k a, e18 k a, e19 k a, e20 k a, e21 k a, e22 k a, e23 k a, e24 k a, e25 k a, e26 k a, e27 k a, e28 k a, e29 k a, e30 k a, e31 k a, e32 k a, e33 k a, e34 k a, e35 k a, e36 k a, e37 k a, e38 k a, e39 k a, e40 k a, e41 k a, e42 k a, e43 k a, e44 k a, e45 k a, e46 k a, e47 k a, m0 k bb, m1 k bb, m2 k bb, m3 k bb, m4 k bb, m5 k bb, m6 k bb, m7 k bb, m8 k bb, m9 k bb, m10 k bb, m11 k bb, m12 k bb, m13 k bb, m14 k bb, m15 k bb, m16 k bb, m17 k bb] H := hP
  have hD : va_D (fun q : Nat => s.heap.size ≤ q) [e3 k a, e4 k a, e5 k a, e6 k a, e7 k a, e8 k a, e9 k a, e10 k a, e11 k a, e12 k a, e13 k a, e14 k a, e15 k a, e16 k a, e17 k a, e18 k a, e19 k a, e20 k a, e21 k a, e22 k a, e23 k a, e24 k a, e25 k a, e26 k a, e27 k a, e28 k a, e29 k a, e30 k a, e31 k a, e32 k a, e33 k a, e34 k a, e35 k a, e36 k a, e37 k a, e38 k a, e39 k a, e40 k a, e41 k a, e42 k a, e43 k a, e44 k a, e45 k a, e46 k a, e47 k a, m0 k bb, m1 k bb, m2 k bb, m3 k bb, m4 k bb, m5 k bb, m6 k bb, m7 k bb, m8 k bb, m9 k bb, m10 k bb, m11 k bb, m12 k bb, m13 k bb, m14 k bb, m15 k bb, m16 k bb, m17 k bb] := hD
  refine W.widen (k := 66) (n := 21009) (Nat.le_of_ble_eq_true rfl) (Nat.le_of_ble_eq_true rfl) ?_
  obtain rfl := hu6
  refine lv_aload_n hx hb dL_law_265 rfl (lv_at hl 2 rfl) ?_
  refine lv_aload_n hx hb dL_law_266 rfl (lv_at hl 0 rfl) ?_
  refine lv_iload_n hx hb dL_law_267 rfl (lv_at hl 3 rfl) ?_
  refine lv_iconst (v := 1) hx hb dL_law_268 (by decide) ?_
  refine lv_iadd hx hb dL_law_269 ?_
  refine lv_topi (fun x7 ex7 => ?_)
  obtain rfl : x7 = 1 := ex7.trans (by decide)
  refine va_sld hx hb hX hbl hbA hS (vp_in_iff.mpr (by decide)) dL_law_270 ?_
  refine W.eq (g2 := F0 m 271 ls [.int (xs 1), .ref (bb 0), .int 20]) rfl ?_
  refine lv_aload_n hx hb dL_law_271 rfl (lv_at hl 0 rfl) ?_
  refine lv_iload_n hx hb dL_law_272 rfl (lv_at hl 3 rfl) ?_
  refine lv_iconst (v := 2) hx hb dL_law_273 (by decide) ?_
  refine lv_iadd hx hb dL_law_274 ?_
  refine lv_topi (fun x8 ex8 => ?_)
  obtain rfl : x8 = 2 := ex8.trans (by decide)
  refine va_sld hx hb hX hbl hbA hS (vp_in_iff.mpr (by decide)) dL_law_275 ?_
  refine W.eq (g2 := F0 m 276 ls [.int (xs 2), .int (xs 1), .ref (bb 0), .int 20]) rfl ?_
  refine lv_aload_n hx hb dL_law_276 rfl (lv_at hl 0 rfl) ?_
  refine lv_iload_n hx hb dL_law_277 rfl (lv_at hl 3 rfl) ?_
  refine lv_iconst (v := 3) hx hb dL_law_278 (by decide) ?_
  refine lv_iadd hx hb dL_law_279 ?_
  refine lv_topi (fun x9 ex9 => ?_)
  obtain rfl : x9 = 3 := ex9.trans (by decide)
  refine va_sld hx hb hX hbl hbA hS (vp_in_iff.mpr (by decide)) dL_law_280 ?_
  refine W.eq (g2 := F0 m 281 ls [.int (xs 3), .int (xs 2), .int (xs 1), .ref (bb 0), .int 20]) rfl ?_
  refine lv_aload_n hx hb dL_law_281 rfl (lv_at hl 0 rfl) ?_
  refine lv_iload_n hx hb dL_law_282 rfl (lv_at hl 3 rfl) ?_
  refine lv_iconst (v := 4) hx hb dL_law_283 (by decide) ?_
  refine lv_iadd hx hb dL_law_284 ?_
  refine lv_topi (fun x10 ex10 => ?_)
  obtain rfl : x10 = 4 := ex10.trans (by decide)
  refine va_sld hx hb hX hbl hbA hS (vp_in_iff.mpr (by decide)) dL_law_285 ?_
  refine W.eq (g2 := F0 m 286 ls [.int (xs 4), .int (xs 3), .int (xs 2), .int (xs 1), .ref (bb 0), .int 20]) rfl ?_
  refine lv_aload_n hx hb dL_law_286 rfl (lv_at hl 0 rfl) ?_
  refine lv_iload_n hx hb dL_law_287 rfl (lv_at hl 3 rfl) ?_
  refine lv_iconst (v := 5) hx hb dL_law_288 (by decide) ?_
  refine lv_iadd hx hb dL_law_289 ?_
  refine lv_topi (fun x11 ex11 => ?_)
  obtain rfl : x11 = 5 := ex11.trans (by decide)
  refine va_sld hx hb hX hbl hbA hS (vp_in_iff.mpr (by decide)) dL_law_290 ?_
  refine W.eq (g2 := F0 m 291 ls [.int (xs 5), .int (xs 4), .int (xs 3), .int (xs 2), .int (xs 1), .ref (bb 0), .int 20]) rfl ?_
  have htc := fun w h => hts0 w (hwL_X12_feed w h)
  refine mvi (C := RX12) (As := [.int (xs 1), .int (xs 2), .int (xs 3), .int (xs 4), .int (xs 5)]) (rest := [.int 20]) (wc := [m0 k bb, m4 k bb, m5 k bb]) (wr := [e3 k a, e4 k a, e5 k a, e6 k a, e7 k a, e8 k a, e9 k a, e10 k a, e11 k a, e12 k a, e13 k a, e14 k a, e15 k a, e16 k a, e17 k a, e18 k a, e19 k a, e20 k a, e21 k a, e22 k a, e23 k a, e24 k a, e25 k a, e26 k a, e27 k a, e28 k a, e29 k a, e30 k a, e31 k a, e32 k a, e33 k a, e34 k a, e35 k a, e36 k a, e37 k a, e38 k a, e39 k a, e40 k a, e41 k a, e42 k a, e43 k a, e44 k a, e45 k a, e46 k a, e47 k a, m1 k bb, m2 k bb, m3 k bb, m6 k bb, m7 k bb, m8 k bb, m9 k bb, m10 k bb, m11 k bb, m12 k bb, m13 k bb, m14 k bb, m15 k bb, m16 k bb, m17 k bb]) ⟨hx, hb, hml, hown, htc⟩ (fun sz => c_X12_feed l D k bb (xs 1) (xs 2) (xs 3) (xs 4) (xs 5) sz) (cwV 5 htc gS_X12_feed rfl rfl rfl (by decide +kernel) ⟨Nat.le_of_ble_eq_true rfl, Nat.le_of_ble_eq_true rfl⟩) hP hK hD hN hS hA [45, 49, 50] [0, 1, 2, 3, 4, 5, 6, 7, 8, 9, 10, 11, 12, 13, 14, 15, 16, 17, 18, 19, 20, 21, 22, 23, 24, 25, 26, 27, 28, 29, 30, 31, 32, 33, 34, 35, 36, 37, 38, 39, 40, 41, 42, 43, 44, 46, 47, 48, 51, 52, 53, 54, 55, 56, 57, 58, 59, 60, 61, 62] rfl rfl (by decide) rfl (by decide) (by decide) 45 rfl rfl rfl rfl hl.1 rfl (Nat.le_of_ble_eq_true rfl) dL_law_291 ⟨Nat.le_of_ble_eq_true rfl, Nat.le_of_ble_eq_true rfl⟩ (fun ru12 u12 H locs hu12 hP hD hS => ?_)
  have hP : va_P D vwCl [e3 k a, e4 k a, e5 k a, e6 k a, e7 k a, e8 k a, e9 k a, e10 k a, e11 k a, e12 k a, e13 k a, e14 k a, e15 k a, e16 k a, e17 k a, e18 k a, e19 k a, e20 k a, e21 k a, e22 k a, e23 k a, e24 k a, e25 k a, e26 k a, e27 k a, e28 k a, e29 k a, e30 k a, e31 k a, e32 k a, e33 k a, e34 k a, e35 k a, e36 k a, e37 k a, e38 k a, e39 k a, e40 k a, e41 k a, e42 k a, e43 k a, e44 k a, e45 k a, e46 k a, e47 k a, m1 k bb, m2 k bb, m3 k bb, m6 k bb, m7 k bb, m8 k bb, m9 k bb, m10 k bb, m11 k bb, m12 k bb, m13 k bb, m14 k bb, m15 k bb, m16 k bb, m17 k bb] H := hP
  have hD : va_D (fun q : Nat => s.heap.size ≤ q) [e3 k a, e4 k a, e5 k a, e6 k a, e7 k a, e8 k a, e9 k a, e10 k a, e11 k a, e12 k a, e13 k a, e14 k a, e15 k a, e16 k a, e17 k a, e18 k a, e19 k a, e20 k a, e21 k a, e22 k a, e23 k a, e24 k a, e25 k a, e26 k a, e27 k a, e28 k a, e29 k a, e30 k a, e31 k a, e32 k a, e33 k a, e34 k a, e35 k a, e36 k a, e37 k a, e38 k a, e39 k a, e40 k a, e41 k a, e42 k a, e43 k a, e44 k a, e45 k a, e46 k a, e47 k a, m1 k bb, m2 k bb, m3 k bb, m6 k bb, m7 k bb, m8 k bb, m9 k bb, m10 k bb, m11 k bb, m12 k bb, m13 k bb, m14 k bb, m15 k bb, m16 k bb, m17 k bb] := hD
  refine W.widen (k := 66) (n := 21009) (Nat.le_of_ble_eq_true rfl) (Nat.le_of_ble_eq_true rfl) ?_
  obtain rfl := hu12
  refine lv_icmp_eq (tgt := 1770) hx hb dL_law_294 (by decide) (fun _ => ?_) (fun h => absurd (by decide) h)
  exact law_tail C0 (Nat.le_refl 6) hS (lv_sub hl [0, 1, 2, 3] rfl) (Nat.le_of_ble_eq_true rfl) (Nat.le_of_ble_eq_true rfl)
set_option maxHeartbeats 4000000 in
set_option maxRecDepth 100000 in
theorem law_1 {p : Program} {l : Launch} {e : Env} {s : State} {m : MethodId} {below : List Frame} {meth : Method} {c : Code} {b : Nat} {xs : Nat → Int32} {D : va_G} {k : Nat → ClassId} {a bb : Nat → Nat} (C0 : lw_At p s m meth c b 6 xs) (hN : NW s) (hK : va_K D vwCl (TYS k) s) {H : Heap} {locs : List Loc} (hP : va_P D vwCl (ALLW k a bb) H) (hD : va_D (fun q : Nat => s.heap.size ≤ q) (ALLW k a bb)) (hS : va_S (fun q : Nat => s.heap.size ≤ q) s.heap H locs) {ls : Array Slot} (hl : lv_has ls 4 [(0, .ref b), (1, .ref (a 0)), (2, .ref (bb 0)), (3, .int 0)]) : W p l e room_1 s m #[Value.ref b] below meth c H locs 66 21009 (lw_Z below #[Value.ref b] s) (F0 m 299 ls []) := by
  obtain ⟨hx, hb, hr, hml, hown, hts0, hX, hbl, hlocks, hgv⟩ := id C0
  have hA : ∀ q : Nat, s.heap.size ≤ q → (fun q : Nat => s.heap.size ≤ q) q := fun _ h => h
  have hbA : ¬ (fun q : Nat => s.heap.size ≤ q) b := Nat.not_le.mpr hbl
  refine lv_aload_n hx hb dL_law_299 rfl (lv_at hl 1 rfl) ?_
  refine lv_aload_n hx hb dL_law_300 rfl (lv_at hl 0 rfl) ?_
  refine lv_iload_n hx hb dL_law_301 rfl (lv_at hl 3 rfl) ?_
  refine lv_iconst (v := 1) hx hb dL_law_302 (by decide) ?_
  refine lv_iadd hx hb dL_law_303 ?_
  refine lv_topi (fun x1 ex1 => ?_)
  obtain rfl : x1 = 1 := ex1.trans (by decide)
  refine va_sld hx hb hX hbl hbA hS (vp_in_iff.mpr (by decide)) dL_law_304 ?_
  refine W.eq (g2 := F0 m 305 ls [.int (xs 1), .ref (a 0)]) rfl ?_
  have htc := fun w h => hts0 w (hwL_X11_end w h)
  refine mvi (C := RX11) (As := [.int (xs 1)]) (rest := []) (wc := [e0 k a, e1 k a]) (wr := [e2 k a, e3 k a, e4 k a, e5 k a, e6 k a, e7 k a, e8 k a, e9 k a, e10 k a, e11 k a, e12 k a, e13 k a, e14 k a, e15 k a, e16 k a, e17 k a, e18 k a, e19 k a, e20 k a, e21 k a, e22 k a, e23 k a, e24 k a, e25 k a, e26 k a, e27 k a, e28 k a, e29 k a, e30 k a, e31 k a, e32 k a, e33 k a, e34 k a, e35 k a, e36 k a, e37 k a, e38 k a, e39 k a, e40 k a, e41 k a, e42 k a, e43 k a, e44 k a, e45 k a, e46 k a, e47 k a, m0 k bb, m1 k bb, m2 k bb, m3 k bb, m4 k bb, m5 k bb, m6 k bb, m7 k bb, m8 k bb, m9 k bb, m10 k bb, m11 k bb, m12 k bb, m13 k bb, m14 k bb, m15 k bb, m16 k bb, m17 k bb]) ⟨hx, hb, hml, hown, htc⟩ (fun sz => c_X11_end l D k a (xs 1) sz) (cwV 1 htc gS_X11_end rfl rfl rfl (by decide +kernel) ⟨Nat.le_of_ble_eq_true rfl, Nat.le_of_ble_eq_true rfl⟩) hP hK hD hN hS hA [0, 1] [2, 3, 4, 5, 6, 7, 8, 9, 10, 11, 12, 13, 14, 15, 16, 17, 18, 19, 20, 21, 22, 23, 24, 25, 26, 27, 28, 29, 30, 31, 32, 33, 34, 35, 36, 37, 38, 39, 40, 41, 42, 43, 44, 45, 46, 47, 48, 49, 50, 51, 52, 53, 54, 55, 56, 57, 58, 59, 60, 61, 62, 63, 64, 65] rfl rfl (by decide) rfl (by decide) (by decide) 0 rfl rfl rfl rfl hl.1 rfl (Nat.le_of_ble_eq_true rfl) dL_law_305 ⟨Nat.le_of_ble_eq_true rfl, Nat.le_of_ble_eq_true rfl⟩ (fun ru2 u2 H locs hu2 hP hD hS => ?_)
  have hP : va_P D vwCl [e2 k a, e3 k a, e4 k a, e5 k a, e6 k a, e7 k a, e8 k a, e9 k a, e10 k a, e11 k a, e12 k a, e13 k a, e14 k a, e15 k a, e16 k a, e17 k a, e18 k a, e19 k a, e20 k a, e21 k a, e22 k a, e23 k a, e24 k a, e25 k a, e26 k a, e27 k a, e28 k a, e29 k a, e30 k a, e31 k a, e32 k a, e33 k a, e34 k a, e35 k a, e36 k a, e37 k a, e38 k a, e39 k a, e40 k a, e41 k a, e42 k a, e43 k a, e44 k a, e45 k a, e46 k a, e47 k a, m0 k bb, m1 k bb, m2 k bb, m3 k bb, m4 k bb, m5 k bb, m6 k bb, m7 k bb, m8 k bb, m9 k bb, m10 k bb, m11 k bb, m12 k bb, m13 k bb, m14 k bb, m15 k bb, m16 k bb, m17 k bb] H := hP
  have hD : va_D (fun q : Nat => s.heap.size ≤ q) [e2 k a, e3 k a, e4 k a, e5 k a, e6 k a, e7 k a, e8 k a, e9 k a, e10 k a, e11 k a, e12 k a, e13 k a, e14 k a, e15 k a, e16 k a, e17 k a, e18 k a, e19 k a, e20 k a, e21 k a, e22 k a, e23 k a, e24 k a, e25 k a, e26 k a, e27 k a, e28 k a, e29 k a, e30 k a, e31 k a, e32 k a, e33 k a, e34 k a, e35 k a, e36 k a, e37 k a, e38 k a, e39 k a, e40 k a, e41 k a, e42 k a, e43 k a, e44 k a, e45 k a, e46 k a, e47 k a, m0 k bb, m1 k bb, m2 k bb, m3 k bb, m4 k bb, m5 k bb, m6 k bb, m7 k bb, m8 k bb, m9 k bb, m10 k bb, m11 k bb, m12 k bb, m13 k bb, m14 k bb, m15 k bb, m16 k bb, m17 k bb] := hD
  refine W.widen (k := 66) (n := 21009) (Nat.le_of_ble_eq_true rfl) (Nat.le_of_ble_eq_true rfl) ?_
  rcases hu2 with ⟨g3, rfl⟩ | ⟨g3, rfl⟩
  · refine lv_aload_n hx hb dL_law_308 rfl (lv_at hl 2 rfl) ?_
    refine lv_aload_n hx hb dL_law_309 rfl (lv_at hl 0 rfl) ?_
    refine lv_iload_n hx hb dL_law_310 rfl (lv_at hl 3 rfl) ?_
    refine lv_iconst (v := 1) hx hb dL_law_311 (by decide) ?_
    refine lv_iadd hx hb dL_law_312 ?_
    refine lv_topi (fun x4 ex4 => ?_)
    obtain rfl : x4 = 1 := ex4.trans (by decide)
    refine va_sld hx hb hX hbl hbA hS (vp_in_iff.mpr (by decide)) dL_law_313 ?_
    refine W.eq (g2 := F0 m 314 ls [.int (xs 1), .ref (bb 0), .int 0]) rfl ?_
    have htc := fun w h => hts0 w (hwL_X12_end w h)
    refine mvi (C := RX12) (As := [.int (xs 1)]) (rest := [.int 0]) (wc := [m0 k bb]) (wr := [e2 k a, e3 k a, e4 k a, e5 k a, e6 k a, e7 k a, e8 k a, e9 k a, e10 k a, e11 k a, e12 k a, e13 k a, e14 k a, e15 k a, e16 k a, e17 k a, e18 k a, e19 k a, e20 k a, e21 k a, e22 k a, e23 k a, e24 k a, e25 k a, e26 k a, e27 k a, e28 k a, e29 k a, e30 k a, e31 k a, e32 k a, e33 k a, e34 k a, e35 k a, e36 k a, e37 k a, e38 k a, e39 k a, e40 k a, e41 k a, e42 k a, e43 k a, e44 k a, e45 k a, e46 k a, e47 k a, m1 k bb, m2 k bb, m3 k bb, m4 k bb, m5 k bb, m6 k bb, m7 k bb, m8 k bb, m9 k bb, m10 k bb, m11 k bb, m12 k bb, m13 k bb, m14 k bb, m15 k bb, m16 k bb, m17 k bb]) ⟨hx, hb, hml, hown, htc⟩ (fun sz => c_X12_end l D k bb (xs 1) sz) (cwV 1 htc gS_X12_end rfl rfl rfl (by decide +kernel) ⟨Nat.le_of_ble_eq_true rfl, Nat.le_of_ble_eq_true rfl⟩) hP hK hD hN hS hA [46] [0, 1, 2, 3, 4, 5, 6, 7, 8, 9, 10, 11, 12, 13, 14, 15, 16, 17, 18, 19, 20, 21, 22, 23, 24, 25, 26, 27, 28, 29, 30, 31, 32, 33, 34, 35, 36, 37, 38, 39, 40, 41, 42, 43, 44, 45, 47, 48, 49, 50, 51, 52, 53, 54, 55, 56, 57, 58, 59, 60, 61, 62, 63] rfl rfl (by decide) rfl (by decide) (by decide) 46 rfl rfl rfl rfl hl.1 rfl (Nat.le_of_ble_eq_true rfl) dL_law_314 ⟨Nat.le_of_ble_eq_true rfl, Nat.le_of_ble_eq_true rfl⟩ (fun ru5 u5 H locs hu5 hP hD hS => ?_)
    have hP : va_P D vwCl [e2 k a, e3 k a, e4 k a, e5 k a, e6 k a, e7 k a, e8 k a, e9 k a, e10 k a, e11 k a, e12 k a, e13 k a, e14 k a, e15 k a, e16 k a, e17 k a, e18 k a, e19 k a, e20 k a, e21 k a, e22 k a, e23 k a, e24 k a, e25 k a, e26 k a, e27 k a, e28 k a, e29 k a, e30 k a, e31 k a, e32 k a, e33 k a, e34 k a, e35 k a, e36 k a, e37 k a, e38 k a, e39 k a, e40 k a, e41 k a, e42 k a, e43 k a, e44 k a, e45 k a, e46 k a, e47 k a, m1 k bb, m2 k bb, m3 k bb, m4 k bb, m5 k bb, m6 k bb, m7 k bb, m8 k bb, m9 k bb, m10 k bb, m11 k bb, m12 k bb, m13 k bb, m14 k bb, m15 k bb, m16 k bb, m17 k bb] H := hP
    have hD : va_D (fun q : Nat => s.heap.size ≤ q) [e2 k a, e3 k a, e4 k a, e5 k a, e6 k a, e7 k a, e8 k a, e9 k a, e10 k a, e11 k a, e12 k a, e13 k a, e14 k a, e15 k a, e16 k a, e17 k a, e18 k a, e19 k a, e20 k a, e21 k a, e22 k a, e23 k a, e24 k a, e25 k a, e26 k a, e27 k a, e28 k a, e29 k a, e30 k a, e31 k a, e32 k a, e33 k a, e34 k a, e35 k a, e36 k a, e37 k a, e38 k a, e39 k a, e40 k a, e41 k a, e42 k a, e43 k a, e44 k a, e45 k a, e46 k a, e47 k a, m1 k bb, m2 k bb, m3 k bb, m4 k bb, m5 k bb, m6 k bb, m7 k bb, m8 k bb, m9 k bb, m10 k bb, m11 k bb, m12 k bb, m13 k bb, m14 k bb, m15 k bb, m16 k bb, m17 k bb] := hD
    refine W.widen (k := 66) (n := 21009) (Nat.le_of_ble_eq_true rfl) (Nat.le_of_ble_eq_true rfl) ?_
    rcases hu5 with ⟨g6, rfl⟩ | ⟨g6, rfl⟩
    · refine lv_icmp_eq (tgt := 1770) hx hb dL_law_317 (by decide) (fun _ => ?_) (fun h => absurd (by decide) h)
      exact law_tail C0 (Nat.le_refl 6) hS (lv_sub hl [0, 1, 2, 3] rfl) (Nat.le_of_ble_eq_true rfl) (Nat.le_of_ble_eq_true rfl)
    · exact False.elim (by (try simp only [i_lt, i_le, i_eq, Int32.toInt_toInt64, Int32.reduceToInt, Int64.reduceToInt] at g3 g6); omega)
  · refine lv_aload_n hx hb dL_law_308 rfl (lv_at hl 2 rfl) ?_
    refine lv_aload_n hx hb dL_law_309 rfl (lv_at hl 0 rfl) ?_
    refine lv_iload_n hx hb dL_law_310 rfl (lv_at hl 3 rfl) ?_
    refine lv_iconst (v := 1) hx hb dL_law_311 (by decide) ?_
    refine lv_iadd hx hb dL_law_312 ?_
    refine lv_topi (fun x7 ex7 => ?_)
    obtain rfl : x7 = 1 := ex7.trans (by decide)
    refine va_sld hx hb hX hbl hbA hS (vp_in_iff.mpr (by decide)) dL_law_313 ?_
    refine W.eq (g2 := F0 m 314 ls [.int (xs 1), .ref (bb 0), .int (-1)]) rfl ?_
    have htc := fun w h => hts0 w (hwL_X12_end w h)
    refine mvi (C := RX12) (As := [.int (xs 1)]) (rest := [.int (-1)]) (wc := [m0 k bb]) (wr := [e2 k a, e3 k a, e4 k a, e5 k a, e6 k a, e7 k a, e8 k a, e9 k a, e10 k a, e11 k a, e12 k a, e13 k a, e14 k a, e15 k a, e16 k a, e17 k a, e18 k a, e19 k a, e20 k a, e21 k a, e22 k a, e23 k a, e24 k a, e25 k a, e26 k a, e27 k a, e28 k a, e29 k a, e30 k a, e31 k a, e32 k a, e33 k a, e34 k a, e35 k a, e36 k a, e37 k a, e38 k a, e39 k a, e40 k a, e41 k a, e42 k a, e43 k a, e44 k a, e45 k a, e46 k a, e47 k a, m1 k bb, m2 k bb, m3 k bb, m4 k bb, m5 k bb, m6 k bb, m7 k bb, m8 k bb, m9 k bb, m10 k bb, m11 k bb, m12 k bb, m13 k bb, m14 k bb, m15 k bb, m16 k bb, m17 k bb]) ⟨hx, hb, hml, hown, htc⟩ (fun sz => c_X12_end l D k bb (xs 1) sz) (cwV 1 htc gS_X12_end rfl rfl rfl (by decide +kernel) ⟨Nat.le_of_ble_eq_true rfl, Nat.le_of_ble_eq_true rfl⟩) hP hK hD hN hS hA [46] [0, 1, 2, 3, 4, 5, 6, 7, 8, 9, 10, 11, 12, 13, 14, 15, 16, 17, 18, 19, 20, 21, 22, 23, 24, 25, 26, 27, 28, 29, 30, 31, 32, 33, 34, 35, 36, 37, 38, 39, 40, 41, 42, 43, 44, 45, 47, 48, 49, 50, 51, 52, 53, 54, 55, 56, 57, 58, 59, 60, 61, 62, 63] rfl rfl (by decide) rfl (by decide) (by decide) 46 rfl rfl rfl rfl hl.1 rfl (Nat.le_of_ble_eq_true rfl) dL_law_314 ⟨Nat.le_of_ble_eq_true rfl, Nat.le_of_ble_eq_true rfl⟩ (fun ru8 u8 H locs hu8 hP hD hS => ?_)
    have hP : va_P D vwCl [e2 k a, e3 k a, e4 k a, e5 k a, e6 k a, e7 k a, e8 k a, e9 k a, e10 k a, e11 k a, e12 k a, e13 k a, e14 k a, e15 k a, e16 k a, e17 k a, e18 k a, e19 k a, e20 k a, e21 k a, e22 k a, e23 k a, e24 k a, e25 k a, e26 k a, e27 k a, e28 k a, e29 k a, e30 k a, e31 k a, e32 k a, e33 k a, e34 k a, e35 k a, e36 k a, e37 k a, e38 k a, e39 k a, e40 k a, e41 k a, e42 k a, e43 k a, e44 k a, e45 k a, e46 k a, e47 k a, m1 k bb, m2 k bb, m3 k bb, m4 k bb, m5 k bb, m6 k bb, m7 k bb, m8 k bb, m9 k bb, m10 k bb, m11 k bb, m12 k bb, m13 k bb, m14 k bb, m15 k bb, m16 k bb, m17 k bb] H := hP
    have hD : va_D (fun q : Nat => s.heap.size ≤ q) [e2 k a, e3 k a, e4 k a, e5 k a, e6 k a, e7 k a, e8 k a, e9 k a, e10 k a, e11 k a, e12 k a, e13 k a, e14 k a, e15 k a, e16 k a, e17 k a, e18 k a, e19 k a, e20 k a, e21 k a, e22 k a, e23 k a, e24 k a, e25 k a, e26 k a, e27 k a, e28 k a, e29 k a, e30 k a, e31 k a, e32 k a, e33 k a, e34 k a, e35 k a, e36 k a, e37 k a, e38 k a, e39 k a, e40 k a, e41 k a, e42 k a, e43 k a, e44 k a, e45 k a, e46 k a, e47 k a, m1 k bb, m2 k bb, m3 k bb, m4 k bb, m5 k bb, m6 k bb, m7 k bb, m8 k bb, m9 k bb, m10 k bb, m11 k bb, m12 k bb, m13 k bb, m14 k bb, m15 k bb, m16 k bb, m17 k bb] := hD
    refine W.widen (k := 66) (n := 21009) (Nat.le_of_ble_eq_true rfl) (Nat.le_of_ble_eq_true rfl) ?_
    rcases hu8 with ⟨g9, rfl⟩ | ⟨g9, rfl⟩
    · exact False.elim (by (try simp only [i_lt, i_le, i_eq, Int32.toInt_toInt64, Int32.reduceToInt, Int64.reduceToInt] at g3 g9); omega)
    · refine lv_icmp_eq (tgt := 1770) hx hb dL_law_317 (by decide) (fun _ => ?_) (fun h => absurd (by decide) h)
      exact law_tail C0 (Nat.le_refl 6) hS (lv_sub hl [0, 1, 2, 3] rfl) (Nat.le_of_ble_eq_true rfl) (Nat.le_of_ble_eq_true rfl)
set_option maxHeartbeats 4000000 in
set_option maxRecDepth 100000 in
theorem law_2 {p : Program} {l : Launch} {e : Env} {s : State} {m : MethodId} {below : List Frame} {meth : Method} {c : Code} {b : Nat} {xs : Nat → Int32} {D : va_G} {k : Nat → ClassId} {a bb : Nat → Nat} (C0 : lw_At p s m meth c b 6 xs) (hN : NW s) (hK : va_K D vwCl (TYS k) s) {H : Heap} {locs : List Loc} (hP : va_P D vwCl (ALLW k a bb) H) (hD : va_D (fun q : Nat => s.heap.size ≤ q) (ALLW k a bb)) (hS : va_S (fun q : Nat => s.heap.size ≤ q) s.heap H locs) {ls : Array Slot} (hl : lv_has ls 4 [(0, .ref b), (1, .ref (a 0)), (2, .ref (bb 0)), (3, .int 0)]) : W p l e room_1 s m #[Value.ref b] below meth c H locs 66 21009 (lw_Z below #[Value.ref b] s) (F0 m 322 ls []) := by
  obtain ⟨hx, hb, hr, hml, hown, hts0, hX, hbl, hlocks, hgv⟩ := id C0
  have hA : ∀ q : Nat, s.heap.size ≤ q → (fun q : Nat => s.heap.size ≤ q) q := fun _ h => h
  have hbA : ¬ (fun q : Nat => s.heap.size ≤ q) b := Nat.not_le.mpr hbl
  refine lv_aload_n hx hb dL_law_322 rfl (lv_at hl 1 rfl) ?_
  have htc := fun w h => hts0 w (hwL_X11_works w h)
  refine mvi (C := RX11) (As := []) (rest := []) (wc := [e0 k a, e1 k a]) (wr := [e2 k a, e3 k a, e4 k a, e5 k a, e6 k a, e7 k a, e8 k a, e9 k a, e10 k a, e11 k a, e12 k a, e13 k a, e14 k a, e15 k a, e16 k a, e17 k a, e18 k a, e19 k a, e20 k a, e21 k a, e22 k a, e23 k a, e24 k a, e25 k a, e26 k a, e27 k a, e28 k a, e29 k a, e30 k a, e31 k a, e32 k a, e33 k a, e34 k a, e35 k a, e36 k a, e37 k a, e38 k a, e39 k a, e40 k a, e41 k a, e42 k a, e43 k a, e44 k a, e45 k a, e46 k a, e47 k a, m0 k bb, m1 k bb, m2 k bb, m3 k bb, m4 k bb, m5 k bb, m6 k bb, m7 k bb, m8 k bb, m9 k bb, m10 k bb, m11 k bb, m12 k bb, m13 k bb, m14 k bb, m15 k bb, m16 k bb, m17 k bb]) ⟨hx, hb, hml, hown, htc⟩ (fun sz => c_X11_works l D k a  sz) (cwV 0 htc gS_X11_works rfl rfl rfl (by decide +kernel) ⟨Nat.le_of_ble_eq_true rfl, Nat.le_of_ble_eq_true rfl⟩) hP hK hD hN hS hA [0, 1] [2, 3, 4, 5, 6, 7, 8, 9, 10, 11, 12, 13, 14, 15, 16, 17, 18, 19, 20, 21, 22, 23, 24, 25, 26, 27, 28, 29, 30, 31, 32, 33, 34, 35, 36, 37, 38, 39, 40, 41, 42, 43, 44, 45, 46, 47, 48, 49, 50, 51, 52, 53, 54, 55, 56, 57, 58, 59, 60, 61, 62, 63, 64, 65] rfl rfl (by decide) rfl (by decide) (by decide) 0 rfl rfl rfl rfl hl.1 rfl (Nat.le_of_ble_eq_true rfl) dL_law_323 ⟨Nat.le_of_ble_eq_true rfl, Nat.le_of_ble_eq_true rfl⟩ (fun ru1 u1 H locs hu1 hP hD hS => ?_)
  have hP : va_P D vwCl [e2 k a, e3 k a, e4 k a, e5 k a, e6 k a, e7 k a, e8 k a, e9 k a, e10 k a, e11 k a, e12 k a, e13 k a, e14 k a, e15 k a, e16 k a, e17 k a, e18 k a, e19 k a, e20 k a, e21 k a, e22 k a, e23 k a, e24 k a, e25 k a, e26 k a, e27 k a, e28 k a, e29 k a, e30 k a, e31 k a, e32 k a, e33 k a, e34 k a, e35 k a, e36 k a, e37 k a, e38 k a, e39 k a, e40 k a, e41 k a, e42 k a, e43 k a, e44 k a, e45 k a, e46 k a, e47 k a, m0 k bb, m1 k bb, m2 k bb, m3 k bb, m4 k bb, m5 k bb, m6 k bb, m7 k bb, m8 k bb, m9 k bb, m10 k bb, m11 k bb, m12 k bb, m13 k bb, m14 k bb, m15 k bb, m16 k bb, m17 k bb] H := hP
  have hD : va_D (fun q : Nat => s.heap.size ≤ q) [e2 k a, e3 k a, e4 k a, e5 k a, e6 k a, e7 k a, e8 k a, e9 k a, e10 k a, e11 k a, e12 k a, e13 k a, e14 k a, e15 k a, e16 k a, e17 k a, e18 k a, e19 k a, e20 k a, e21 k a, e22 k a, e23 k a, e24 k a, e25 k a, e26 k a, e27 k a, e28 k a, e29 k a, e30 k a, e31 k a, e32 k a, e33 k a, e34 k a, e35 k a, e36 k a, e37 k a, e38 k a, e39 k a, e40 k a, e41 k a, e42 k a, e43 k a, e44 k a, e45 k a, e46 k a, e47 k a, m0 k bb, m1 k bb, m2 k bb, m3 k bb, m4 k bb, m5 k bb, m6 k bb, m7 k bb, m8 k bb, m9 k bb, m10 k bb, m11 k bb, m12 k bb, m13 k bb, m14 k bb, m15 k bb, m16 k bb, m17 k bb] := hD
  refine W.widen (k := 89) (n := 21430) (Nat.le_of_ble_eq_true rfl) (Nat.le_of_ble_eq_true rfl) ?_
  obtain rfl := hu1
  refine lv_aload_n hx hb dL_law_326 rfl (lv_at hl 2 rfl) ?_
  have htc := fun w h => hts0 w (hwL_X12_works w h)
  refine mvi (C := RX12) (As := []) (rest := [.int 0]) (wc := [m0 k bb, m1 k bb, m6 k bb]) (wr := [e2 k a, e3 k a, e4 k a, e5 k a, e6 k a, e7 k a, e8 k a, e9 k a, e10 k a, e11 k a, e12 k a, e13 k a, e14 k a, e15 k a, e16 k a, e17 k a, e18 k a, e19 k a, e20 k a, e21 k a, e22 k a, e23 k a, e24 k a, e25 k a, e26 k a, e27 k a, e28 k a, e29 k a, e30 k a, e31 k a, e32 k a, e33 k a, e34 k a, e35 k a, e36 k a, e37 k a, e38 k a, e39 k a, e40 k a, e41 k a, e42 k a, e43 k a, e44 k a, e45 k a, e46 k a, e47 k a, m2 k bb, m3 k bb, m4 k bb, m5 k bb, m7 k bb, m8 k bb, m9 k bb, m10 k bb, m11 k bb, m12 k bb, m13 k bb, m14 k bb, m15 k bb, m16 k bb, m17 k bb]) ⟨hx, hb, hml, hown, htc⟩ (fun sz => c_X12_works l D k bb  sz) (cwV 0 htc gS_X12_works rfl rfl rfl (by decide +kernel) ⟨Nat.le_of_ble_eq_true rfl, Nat.le_of_ble_eq_true rfl⟩) hP hK hD hN hS hA [46, 47, 52] [0, 1, 2, 3, 4, 5, 6, 7, 8, 9, 10, 11, 12, 13, 14, 15, 16, 17, 18, 19, 20, 21, 22, 23, 24, 25, 26, 27, 28, 29, 30, 31, 32, 33, 34, 35, 36, 37, 38, 39, 40, 41, 42, 43, 44, 45, 48, 49, 50, 51, 53, 54, 55, 56, 57, 58, 59, 60, 61, 62, 63] rfl rfl (by decide) rfl (by decide) (by decide) 46 rfl rfl rfl rfl hl.1 rfl (Nat.le_of_ble_eq_true rfl) dL_law_327 ⟨Nat.le_of_ble_eq_true rfl, Nat.le_of_ble_eq_true rfl⟩ (fun ru2 u2 H locs hu2 hP hD hS => ?_)
  have hP : va_P D vwCl [e2 k a, e3 k a, e4 k a, e5 k a, e6 k a, e7 k a, e8 k a, e9 k a, e10 k a, e11 k a, e12 k a, e13 k a, e14 k a, e15 k a, e16 k a, e17 k a, e18 k a, e19 k a, e20 k a, e21 k a, e22 k a, e23 k a, e24 k a, e25 k a, e26 k a, e27 k a, e28 k a, e29 k a, e30 k a, e31 k a, e32 k a, e33 k a, e34 k a, e35 k a, e36 k a, e37 k a, e38 k a, e39 k a, e40 k a, e41 k a, e42 k a, e43 k a, e44 k a, e45 k a, e46 k a, e47 k a, m2 k bb, m3 k bb, m4 k bb, m5 k bb, m7 k bb, m8 k bb, m9 k bb, m10 k bb, m11 k bb, m12 k bb, m13 k bb, m14 k bb, m15 k bb, m16 k bb, m17 k bb] H := hP
  have hD : va_D (fun q : Nat => s.heap.size ≤ q) [e2 k a, e3 k a, e4 k a, e5 k a, e6 k a, e7 k a, e8 k a, e9 k a, e10 k a, e11 k a, e12 k a, e13 k a, e14 k a, e15 k a, e16 k a, e17 k a, e18 k a, e19 k a, e20 k a, e21 k a, e22 k a, e23 k a, e24 k a, e25 k a, e26 k a, e27 k a, e28 k a, e29 k a, e30 k a, e31 k a, e32 k a, e33 k a, e34 k a, e35 k a, e36 k a, e37 k a, e38 k a, e39 k a, e40 k a, e41 k a, e42 k a, e43 k a, e44 k a, e45 k a, e46 k a, e47 k a, m2 k bb, m3 k bb, m4 k bb, m5 k bb, m7 k bb, m8 k bb, m9 k bb, m10 k bb, m11 k bb, m12 k bb, m13 k bb, m14 k bb, m15 k bb, m16 k bb, m17 k bb] := hD
  refine W.widen (k := 89) (n := 21430) (Nat.le_of_ble_eq_true rfl) (Nat.le_of_ble_eq_true rfl) ?_
  obtain rfl := hu2
  refine lv_icmp_eq (tgt := 1770) hx hb dL_law_330 (by decide) (fun _ => ?_) (fun h => absurd (by decide) h)
  exact law_tail C0 (Nat.le_refl 6) hS (lv_sub hl [0, 1, 2, 3] rfl) (Nat.le_of_ble_eq_true rfl) (Nat.le_of_ble_eq_true rfl)
set_option maxHeartbeats 4000000 in
set_option maxRecDepth 100000 in
theorem law_3 {p : Program} {l : Launch} {e : Env} {s : State} {m : MethodId} {below : List Frame} {meth : Method} {c : Code} {b : Nat} {xs : Nat → Int32} {D : va_G} {k : Nat → ClassId} {a bb : Nat → Nat} (C0 : lw_At p s m meth c b 6 xs) (hN : NW s) (hK : va_K D vwCl (TYS k) s) {H : Heap} {locs : List Loc} (hP : va_P D vwCl (ALLW k a bb) H) (hD : va_D (fun q : Nat => s.heap.size ≤ q) (ALLW k a bb)) (hS : va_S (fun q : Nat => s.heap.size ≤ q) s.heap H locs) {ls : Array Slot} (hl : lv_has ls 4 [(0, .ref b), (1, .ref (a 0)), (2, .ref (bb 0)), (3, .int 0)]) : W p l e room_1 s m #[Value.ref b] below meth c H locs 66 21009 (lw_Z below #[Value.ref b] s) (F0 m 335 ls []) := by
  obtain ⟨hx, hb, hr, hml, hown, hts0, hX, hbl, hlocks, hgv⟩ := id C0
  have hA : ∀ q : Nat, s.heap.size ≤ q → (fun q : Nat => s.heap.size ≤ q) q := fun _ h => h
  have hbA : ¬ (fun q : Nat => s.heap.size ≤ q) b := Nat.not_le.mpr hbl
  refine lv_aload_n hx hb dL_law_335 rfl (lv_at hl 1 rfl) ?_
  refine lv_aload_n hx hb dL_law_336 rfl (lv_at hl 0 rfl) ?_
  refine lv_iload_n hx hb dL_law_337 rfl (lv_at hl 3 rfl) ?_
  refine lv_iconst (v := 1) hx hb dL_law_338 (by decide) ?_
  refine lv_iadd hx hb dL_law_339 ?_
  refine lv_topi (fun x1 ex1 => ?_)
  obtain rfl : x1 = 1 := ex1.trans (by decide)
  refine va_sld hx hb hX hbl hbA hS (vp_in_iff.mpr (by decide)) dL_law_340 ?_
  refine W.eq (g2 := F0 m 341 ls [.int (xs 1), .ref (a 0)]) rfl ?_
  have htc := fun w h => hts0 w (hwL_X11_fault w h)
  refine pvi (C := RX11) (As := [.int (xs 1)]) (rest := []) (wc := [e0 k a]) ⟨hx, hb, hml, hown, htc⟩ (c_X11_fault l D k a (xs 1)) (cwV 1 htc gS_X11_fault rfl rfl rfl (by decide +kernel) ⟨Nat.le_of_ble_eq_true rfl, Nat.le_of_ble_eq_true rfl⟩) hP hK [0] rfl 0 rfl rfl rfl rfl hl.1 rfl (Nat.le_of_ble_eq_true rfl) dL_law_341 ⟨Nat.le_of_ble_eq_true rfl, Nat.le_of_ble_eq_true rfl⟩ (fun r2 hr2 => ?_)
  rcases hr2 with ⟨g3, rfl⟩ | ⟨g3, rfl⟩
  · refine lv_aload_n hx hb dL_law_344 rfl (lv_at hl 2 rfl) ?_
    refine lv_aload_n hx hb dL_law_345 rfl (lv_at hl 0 rfl) ?_
    refine lv_iload_n hx hb dL_law_346 rfl (lv_at hl 3 rfl) ?_
    refine lv_iconst (v := 1) hx hb dL_law_347 (by decide) ?_
    refine lv_iadd hx hb dL_law_348 ?_
    refine lv_topi (fun x4 ex4 => ?_)
    obtain rfl : x4 = 1 := ex4.trans (by decide)
    refine va_sld hx hb hX hbl hbA hS (vp_in_iff.mpr (by decide)) dL_law_349 ?_
    refine W.eq (g2 := F0 m 350 ls [.int (xs 1), .ref (bb 0), .int 0]) rfl ?_
    have htc := fun w h => hts0 w (hwL_X12_fault w h)
    refine pvi (C := RX12) (As := [.int (xs 1)]) (rest := [.int 0]) (wc := [m0 k bb]) ⟨hx, hb, hml, hown, htc⟩ (c_X12_fault l D k bb (xs 1)) (cwV 1 htc gS_X12_fault rfl rfl rfl (by decide +kernel) ⟨Nat.le_of_ble_eq_true rfl, Nat.le_of_ble_eq_true rfl⟩) hP hK [48] rfl 48 rfl rfl rfl rfl hl.1 rfl (Nat.le_of_ble_eq_true rfl) dL_law_350 ⟨Nat.le_of_ble_eq_true rfl, Nat.le_of_ble_eq_true rfl⟩ (fun r5 hr5 => ?_)
    rcases hr5 with ⟨g6, rfl⟩ | ⟨g6, rfl⟩
    · refine lv_icmp_eq (tgt := 1770) hx hb dL_law_353 (by decide) (fun _ => ?_) (fun h => absurd (by decide) h)
      exact law_tail C0 (Nat.le_refl 6) hS (lv_sub hl [0, 1, 2, 3] rfl) (Nat.le_of_ble_eq_true rfl) (Nat.le_of_ble_eq_true rfl)
    · exact False.elim (by (try simp only [i_lt, i_le, i_eq, Int32.toInt_toInt64, Int32.reduceToInt, Int64.reduceToInt] at g3 g6); omega)
  · refine lv_aload_n hx hb dL_law_344 rfl (lv_at hl 2 rfl) ?_
    refine lv_aload_n hx hb dL_law_345 rfl (lv_at hl 0 rfl) ?_
    refine lv_iload_n hx hb dL_law_346 rfl (lv_at hl 3 rfl) ?_
    refine lv_iconst (v := 1) hx hb dL_law_347 (by decide) ?_
    refine lv_iadd hx hb dL_law_348 ?_
    refine lv_topi (fun x7 ex7 => ?_)
    obtain rfl : x7 = 1 := ex7.trans (by decide)
    refine va_sld hx hb hX hbl hbA hS (vp_in_iff.mpr (by decide)) dL_law_349 ?_
    refine W.eq (g2 := F0 m 350 ls [.int (xs 1), .ref (bb 0), .int (-1)]) rfl ?_
    have htc := fun w h => hts0 w (hwL_X12_fault w h)
    refine pvi (C := RX12) (As := [.int (xs 1)]) (rest := [.int (-1)]) (wc := [m0 k bb]) ⟨hx, hb, hml, hown, htc⟩ (c_X12_fault l D k bb (xs 1)) (cwV 1 htc gS_X12_fault rfl rfl rfl (by decide +kernel) ⟨Nat.le_of_ble_eq_true rfl, Nat.le_of_ble_eq_true rfl⟩) hP hK [48] rfl 48 rfl rfl rfl rfl hl.1 rfl (Nat.le_of_ble_eq_true rfl) dL_law_350 ⟨Nat.le_of_ble_eq_true rfl, Nat.le_of_ble_eq_true rfl⟩ (fun r8 hr8 => ?_)
    rcases hr8 with ⟨g9, rfl⟩ | ⟨g9, rfl⟩
    · exact False.elim (by (try simp only [i_lt, i_le, i_eq, Int32.toInt_toInt64, Int32.reduceToInt, Int64.reduceToInt] at g3 g9); omega)
    · refine lv_icmp_eq (tgt := 1770) hx hb dL_law_353 (by decide) (fun _ => ?_) (fun h => absurd (by decide) h)
      exact law_tail C0 (Nat.le_refl 6) hS (lv_sub hl [0, 1, 2, 3] rfl) (Nat.le_of_ble_eq_true rfl) (Nat.le_of_ble_eq_true rfl)
set_option maxHeartbeats 4000000 in
set_option maxRecDepth 100000 in
theorem law_4 {p : Program} {l : Launch} {e : Env} {s : State} {m : MethodId} {below : List Frame} {meth : Method} {c : Code} {b : Nat} {xs : Nat → Int32} {D : va_G} {k : Nat → ClassId} {a bb : Nat → Nat} (C0 : lw_At p s m meth c b 6 xs) (hN : NW s) (hK : va_K D vwCl (TYS k) s) {H : Heap} {locs : List Loc} (hP : va_P D vwCl (ALLW k a bb) H) (hD : va_D (fun q : Nat => s.heap.size ≤ q) (ALLW k a bb)) (hS : va_S (fun q : Nat => s.heap.size ≤ q) s.heap H locs) {ls : Array Slot} (hl : lv_has ls 4 [(0, .ref b), (1, .ref (a 0)), (2, .ref (bb 0)), (3, .int 0)]) : W p l e room_1 s m #[Value.ref b] below meth c H locs 66 21009 (lw_Z below #[Value.ref b] s) (F0 m 358 ls []) := by
  obtain ⟨hx, hb, hr, hml, hown, hts0, hX, hbl, hlocks, hgv⟩ := id C0
  have hA : ∀ q : Nat, s.heap.size ≤ q → (fun q : Nat => s.heap.size ≤ q) q := fun _ h => h
  have hbA : ¬ (fun q : Nat => s.heap.size ≤ q) b := Nat.not_le.mpr hbl
  refine lv_aload_n hx hb dL_law_358 rfl (lv_at hl 1 rfl) ?_
  refine lv_aload_n hx hb dL_law_359 rfl (lv_at hl 0 rfl) ?_
  refine lv_iload_n hx hb dL_law_360 rfl (lv_at hl 3 rfl) ?_
  refine lv_iconst (v := 1) hx hb dL_law_361 (by decide) ?_
  refine lv_iadd hx hb dL_law_362 ?_
  refine lv_topi (fun x1 ex1 => ?_)
  obtain rfl : x1 = 1 := ex1.trans (by decide)
  refine va_sld hx hb hX hbl hbA hS (vp_in_iff.mpr (by decide)) dL_law_363 ?_
  refine W.eq (g2 := F0 m 364 ls [.int (xs 1), .ref (a 0)]) rfl ?_
  have htc := fun w h => hts0 w (hwL_X11_height w h)
  refine pvi (C := RX11) (As := [.int (xs 1)]) (rest := []) (wc := [e0 k a, e26 k a]) ⟨hx, hb, hml, hown, htc⟩ (c_X11_height l D k a (xs 1)) (cwV 1 htc gS_X11_height rfl rfl rfl (by decide +kernel) ⟨Nat.le_of_ble_eq_true rfl, Nat.le_of_ble_eq_true rfl⟩) hP hK [0, 26] rfl 0 rfl rfl rfl rfl hl.1 rfl (Nat.le_of_ble_eq_true rfl) dL_law_364 ⟨Nat.le_of_ble_eq_true rfl, Nat.le_of_ble_eq_true rfl⟩ (fun r2 hr2 => ?_)
  obtain rfl := hr2
  refine lv_aload_n hx hb dL_law_367 rfl (lv_at hl 2 rfl) ?_
  refine lv_aload_n hx hb dL_law_368 rfl (lv_at hl 0 rfl) ?_
  refine lv_iload_n hx hb dL_law_369 rfl (lv_at hl 3 rfl) ?_
  refine lv_iconst (v := 1) hx hb dL_law_370 (by decide) ?_
  refine lv_iadd hx hb dL_law_371 ?_
  refine lv_topi (fun x3 ex3 => ?_)
  obtain rfl : x3 = 1 := ex3.trans (by decide)
  refine va_sld hx hb hX hbl hbA hS (vp_in_iff.mpr (by decide)) dL_law_372 ?_
  refine W.eq (g2 := F0 m 373 ls [.int (xs 1), .ref (bb 0), .int (-2000000000)]) rfl ?_
  have htc := fun w h => hts0 w (hwL_X12_height w h)
  refine pvi (C := RX12) (As := [.int (xs 1)]) (rest := [.int (-2000000000)]) (wc := [m0 k bb, m1 k bb]) ⟨hx, hb, hml, hown, htc⟩ (c_X12_height l D k bb (xs 1)) (cwV 1 htc gS_X12_height rfl rfl rfl (by decide +kernel) ⟨Nat.le_of_ble_eq_true rfl, Nat.le_of_ble_eq_true rfl⟩) hP hK [48, 49] rfl 48 rfl rfl rfl rfl hl.1 rfl (Nat.le_of_ble_eq_true rfl) dL_law_373 ⟨Nat.le_of_ble_eq_true rfl, Nat.le_of_ble_eq_true rfl⟩ (fun r4 hr4 => ?_)
  obtain rfl := hr4
  refine lv_icmp_eq (tgt := 1770) hx hb dL_law_376 (by decide) (fun _ => ?_) (fun h => absurd (by decide) h)
  exact law_tail C0 (Nat.le_refl 6) hS (lv_sub hl [0, 1, 2, 3] rfl) (Nat.le_of_ble_eq_true rfl) (Nat.le_of_ble_eq_true rfl)
set_option maxHeartbeats 4000000 in
set_option maxRecDepth 100000 in
theorem law_5 {p : Program} {l : Launch} {e : Env} {s : State} {m : MethodId} {below : List Frame} {meth : Method} {c : Code} {b : Nat} {xs : Nat → Int32} {D : va_G} {k : Nat → ClassId} {a bb : Nat → Nat} (C0 : lw_At p s m meth c b 6 xs) (hN : NW s) (hK : va_K D vwCl (TYS k) s) {H : Heap} {locs : List Loc} (hP : va_P D vwCl (ALLW k a bb) H) (hD : va_D (fun q : Nat => s.heap.size ≤ q) (ALLW k a bb)) (hS : va_S (fun q : Nat => s.heap.size ≤ q) s.heap H locs) {ls : Array Slot} (hl : lv_has ls 4 [(0, .ref b), (1, .ref (a 0)), (2, .ref (bb 0)), (3, .int 0)]) : W p l e room_1 s m #[Value.ref b] below meth c H locs 66 21009 (lw_Z below #[Value.ref b] s) (F0 m 381 ls []) := by
  obtain ⟨hx, hb, hr, hml, hown, hts0, hX, hbl, hlocks, hgv⟩ := id C0
  have hA : ∀ q : Nat, s.heap.size ≤ q → (fun q : Nat => s.heap.size ≤ q) q := fun _ h => h
  have hbA : ¬ (fun q : Nat => s.heap.size ≤ q) b := Nat.not_le.mpr hbl
  refine lv_aload_n hx hb dL_law_381 rfl (lv_at hl 1 rfl) ?_
  refine lv_aload_n hx hb dL_law_382 rfl (lv_at hl 0 rfl) ?_
  refine lv_iload_n hx hb dL_law_383 rfl (lv_at hl 3 rfl) ?_
  refine lv_iconst (v := 1) hx hb dL_law_384 (by decide) ?_
  refine lv_iadd hx hb dL_law_385 ?_
  refine lv_topi (fun x1 ex1 => ?_)
  obtain rfl : x1 = 1 := ex1.trans (by decide)
  refine va_sld hx hb hX hbl hbA hS (vp_in_iff.mpr (by decide)) dL_law_386 ?_
  refine W.eq (g2 := F0 m 387 ls [.int (xs 1), .ref (a 0)]) rfl ?_
  refine lv_aload_n hx hb dL_law_387 rfl (lv_at hl 0 rfl) ?_
  refine lv_iload_n hx hb dL_law_388 rfl (lv_at hl 3 rfl) ?_
  refine lv_iconst (v := 2) hx hb dL_law_389 (by decide) ?_
  refine lv_iadd hx hb dL_law_390 ?_
  refine lv_topi (fun x2 ex2 => ?_)
  obtain rfl : x2 = 2 := ex2.trans (by decide)
  refine va_sld hx hb hX hbl hbA hS (vp_in_iff.mpr (by decide)) dL_law_391 ?_
  refine W.eq (g2 := F0 m 392 ls [.int (xs 2), .int (xs 1), .ref (a 0)]) rfl ?_
  have htc := fun w h => hts0 w (hwL_X11_pipe w h)
  refine pvi (C := RX11) (As := [.int (xs 1), .int (xs 2)]) (rest := []) (wc := [e0 k a, e26 k a]) ⟨hx, hb, hml, hown, htc⟩ (c_X11_pipe l D k a (xs 1) (xs 2)) (cwV 2 htc gS_X11_pipe rfl rfl rfl (by decide +kernel) ⟨Nat.le_of_ble_eq_true rfl, Nat.le_of_ble_eq_true rfl⟩) hP hK [0, 26] rfl 0 rfl rfl rfl rfl hl.1 rfl (Nat.le_of_ble_eq_true rfl) dL_law_392 ⟨Nat.le_of_ble_eq_true rfl, Nat.le_of_ble_eq_true rfl⟩ (fun r3 hr3 => ?_)
  obtain rfl := hr3
  refine lv_aload_n hx hb dL_law_395 rfl (lv_at hl 2 rfl) ?_
  refine lv_aload_n hx hb dL_law_396 rfl (lv_at hl 0 rfl) ?_
  refine lv_iload_n hx hb dL_law_397 rfl (lv_at hl 3 rfl) ?_
  refine lv_iconst (v := 1) hx hb dL_law_398 (by decide) ?_
  refine lv_iadd hx hb dL_law_399 ?_
  refine lv_topi (fun x4 ex4 => ?_)
  obtain rfl : x4 = 1 := ex4.trans (by decide)
  refine va_sld hx hb hX hbl hbA hS (vp_in_iff.mpr (by decide)) dL_law_400 ?_
  refine W.eq (g2 := F0 m 401 ls [.int (xs 1), .ref (bb 0), .int (-2000000000)]) rfl ?_
  refine lv_aload_n hx hb dL_law_401 rfl (lv_at hl 0 rfl) ?_
  refine lv_iload_n hx hb dL_law_402 rfl (lv_at hl 3 rfl) ?_
  refine lv_iconst (v := 2) hx hb dL_law_403 (by decide) ?_
  refine lv_iadd hx hb dL_law_404 ?_
  refine lv_topi (fun x5 ex5 => ?_)
  obtain rfl : x5 = 2 := ex5.trans (by decide)
  refine va_sld hx hb hX hbl hbA hS (vp_in_iff.mpr (by decide)) dL_law_405 ?_
  refine W.eq (g2 := F0 m 406 ls [.int (xs 2), .int (xs 1), .ref (bb 0), .int (-2000000000)]) rfl ?_
  have htc := fun w h => hts0 w (hwL_X12_pipe w h)
  refine pvi (C := RX12) (As := [.int (xs 1), .int (xs 2)]) (rest := [.int (-2000000000)]) (wc := [m0 k bb, m1 k bb]) ⟨hx, hb, hml, hown, htc⟩ (c_X12_pipe l D k bb (xs 1) (xs 2)) (cwV 2 htc gS_X12_pipe rfl rfl rfl (by decide +kernel) ⟨Nat.le_of_ble_eq_true rfl, Nat.le_of_ble_eq_true rfl⟩) hP hK [48, 49] rfl 48 rfl rfl rfl rfl hl.1 rfl (Nat.le_of_ble_eq_true rfl) dL_law_406 ⟨Nat.le_of_ble_eq_true rfl, Nat.le_of_ble_eq_true rfl⟩ (fun r6 hr6 => ?_)
  obtain rfl := hr6
  refine lv_icmp_eq (tgt := 1770) hx hb dL_law_409 (by decide) (fun _ => ?_) (fun h => absurd (by decide) h)
  exact law_tail C0 (Nat.le_refl 6) hS (lv_sub hl [0, 1, 2, 3] rfl) (Nat.le_of_ble_eq_true rfl) (Nat.le_of_ble_eq_true rfl)
set_option maxHeartbeats 4000000 in
set_option maxRecDepth 100000 in
theorem law_6 {p : Program} {l : Launch} {e : Env} {s : State} {m : MethodId} {below : List Frame} {meth : Method} {c : Code} {b : Nat} {xs : Nat → Int32} {D : va_G} {k : Nat → ClassId} {a bb : Nat → Nat} (C0 : lw_At p s m meth c b 6 xs) (hN : NW s) (hK : va_K D vwCl (TYS k) s) {H : Heap} {locs : List Loc} (hP : va_P D vwCl (ALLW k a bb) H) (hD : va_D (fun q : Nat => s.heap.size ≤ q) (ALLW k a bb)) (hS : va_S (fun q : Nat => s.heap.size ≤ q) s.heap H locs) {ls : Array Slot} (hl : lv_has ls 4 [(0, .ref b), (1, .ref (a 0)), (2, .ref (bb 0)), (3, .int 0)]) : W p l e room_1 s m #[Value.ref b] below meth c H locs 66 21009 (lw_Z below #[Value.ref b] s) (F0 m 414 ls []) := by
  obtain ⟨hx, hb, hr, hml, hown, hts0, hX, hbl, hlocks, hgv⟩ := id C0
  have hA : ∀ q : Nat, s.heap.size ≤ q → (fun q : Nat => s.heap.size ≤ q) q := fun _ h => h
  have hbA : ¬ (fun q : Nat => s.heap.size ≤ q) b := Nat.not_le.mpr hbl
  refine lv_aload_n hx hb dL_law_414 rfl (lv_at hl 1 rfl) ?_
  refine lv_aload_n hx hb dL_law_415 rfl (lv_at hl 0 rfl) ?_
  refine lv_iload_n hx hb dL_law_416 rfl (lv_at hl 3 rfl) ?_
  refine lv_iconst (v := 1) hx hb dL_law_417 (by decide) ?_
  refine lv_iadd hx hb dL_law_418 ?_
  refine lv_topi (fun x1 ex1 => ?_)
  obtain rfl : x1 = 1 := ex1.trans (by decide)
  refine va_sld hx hb hX hbl hbA hS (vp_in_iff.mpr (by decide)) dL_law_419 ?_
  refine W.eq (g2 := F0 m 420 ls [.int (xs 1), .ref (a 0)]) rfl ?_
  refine lv_aload_n hx hb dL_law_420 rfl (lv_at hl 0 rfl) ?_
  refine lv_iload_n hx hb dL_law_421 rfl (lv_at hl 3 rfl) ?_
  refine lv_iconst (v := 2) hx hb dL_law_422 (by decide) ?_
  refine lv_iadd hx hb dL_law_423 ?_
  refine lv_topi (fun x2 ex2 => ?_)
  obtain rfl : x2 = 2 := ex2.trans (by decide)
  refine va_sld hx hb hX hbl hbA hS (vp_in_iff.mpr (by decide)) dL_law_424 ?_
  refine W.eq (g2 := F0 m 425 ls [.int (xs 2), .int (xs 1), .ref (a 0)]) rfl ?_
  refine lv_aload_n hx hb dL_law_425 rfl (lv_at hl 0 rfl) ?_
  refine lv_iload_n hx hb dL_law_426 rfl (lv_at hl 3 rfl) ?_
  refine lv_iconst (v := 3) hx hb dL_law_427 (by decide) ?_
  refine lv_iadd hx hb dL_law_428 ?_
  refine lv_topi (fun x3 ex3 => ?_)
  obtain rfl : x3 = 3 := ex3.trans (by decide)
  refine va_sld hx hb hX hbl hbA hS (vp_in_iff.mpr (by decide)) dL_law_429 ?_
  refine W.eq (g2 := F0 m 430 ls [.int (xs 3), .int (xs 2), .int (xs 1), .ref (a 0)]) rfl ?_
  have htc := fun w h => hts0 w (hwL_X11_bend w h)
  refine pvi (C := RX11) (As := [.int (xs 1), .int (xs 2), .int (xs 3)]) (rest := []) (wc := [e0 k a, e26 k a]) ⟨hx, hb, hml, hown, htc⟩ (c_X11_bend l D k a (xs 1) (xs 2) (xs 3)) (cwV 3 htc gS_X11_bend rfl rfl rfl (by decide +kernel) ⟨Nat.le_of_ble_eq_true rfl, Nat.le_of_ble_eq_true rfl⟩) hP hK [0, 26] rfl 0 rfl rfl rfl rfl hl.1 rfl (Nat.le_of_ble_eq_true rfl) dL_law_430 ⟨Nat.le_of_ble_eq_true rfl, Nat.le_of_ble_eq_true rfl⟩ (fun r4 hr4 => ?_)
  obtain rfl := hr4
  refine lv_aload_n hx hb dL_law_433 rfl (lv_at hl 2 rfl) ?_
  refine lv_aload_n hx hb dL_law_434 rfl (lv_at hl 0 rfl) ?_
  refine lv_iload_n hx hb dL_law_435 rfl (lv_at hl 3 rfl) ?_
  refine lv_iconst (v := 1) hx hb dL_law_436 (by decide) ?_
  refine lv_iadd hx hb dL_law_437 ?_
  refine lv_topi (fun x5 ex5 => ?_)
  obtain rfl : x5 = 1 := ex5.trans (by decide)
  refine va_sld hx hb hX hbl hbA hS (vp_in_iff.mpr (by decide)) dL_law_438 ?_
  refine W.eq (g2 := F0 m 439 ls [.int (xs 1), .ref (bb 0), .int (-2000000000)]) rfl ?_
  refine lv_aload_n hx hb dL_law_439 rfl (lv_at hl 0 rfl) ?_
  refine lv_iload_n hx hb dL_law_440 rfl (lv_at hl 3 rfl) ?_
  refine lv_iconst (v := 2) hx hb dL_law_441 (by decide) ?_
  refine lv_iadd hx hb dL_law_442 ?_
  refine lv_topi (fun x6 ex6 => ?_)
  obtain rfl : x6 = 2 := ex6.trans (by decide)
  refine va_sld hx hb hX hbl hbA hS (vp_in_iff.mpr (by decide)) dL_law_443 ?_
  refine W.eq (g2 := F0 m 444 ls [.int (xs 2), .int (xs 1), .ref (bb 0), .int (-2000000000)]) rfl ?_
  refine lv_aload_n hx hb dL_law_444 rfl (lv_at hl 0 rfl) ?_
  refine lv_iload_n hx hb dL_law_445 rfl (lv_at hl 3 rfl) ?_
  refine lv_iconst (v := 3) hx hb dL_law_446 (by decide) ?_
  refine lv_iadd hx hb dL_law_447 ?_
  refine lv_topi (fun x7 ex7 => ?_)
  obtain rfl : x7 = 3 := ex7.trans (by decide)
  refine va_sld hx hb hX hbl hbA hS (vp_in_iff.mpr (by decide)) dL_law_448 ?_
  refine W.eq (g2 := F0 m 449 ls [.int (xs 3), .int (xs 2), .int (xs 1), .ref (bb 0), .int (-2000000000)]) rfl ?_
  have htc := fun w h => hts0 w (hwL_X12_bend w h)
  refine pvi (C := RX12) (As := [.int (xs 1), .int (xs 2), .int (xs 3)]) (rest := [.int (-2000000000)]) (wc := [m0 k bb, m1 k bb]) ⟨hx, hb, hml, hown, htc⟩ (c_X12_bend l D k bb (xs 1) (xs 2) (xs 3)) (cwV 3 htc gS_X12_bend rfl rfl rfl (by decide +kernel) ⟨Nat.le_of_ble_eq_true rfl, Nat.le_of_ble_eq_true rfl⟩) hP hK [48, 49] rfl 48 rfl rfl rfl rfl hl.1 rfl (Nat.le_of_ble_eq_true rfl) dL_law_449 ⟨Nat.le_of_ble_eq_true rfl, Nat.le_of_ble_eq_true rfl⟩ (fun r8 hr8 => ?_)
  obtain rfl := hr8
  refine lv_icmp_eq (tgt := 1770) hx hb dL_law_452 (by decide) (fun _ => ?_) (fun h => absurd (by decide) h)
  exact law_tail C0 (Nat.le_refl 6) hS (lv_sub hl [0, 1, 2, 3] rfl) (Nat.le_of_ble_eq_true rfl) (Nat.le_of_ble_eq_true rfl)
set_option maxHeartbeats 4000000 in
set_option maxRecDepth 100000 in
theorem law_7 {p : Program} {l : Launch} {e : Env} {s : State} {m : MethodId} {below : List Frame} {meth : Method} {c : Code} {b : Nat} {xs : Nat → Int32} {D : va_G} {k : Nat → ClassId} {a bb : Nat → Nat} (C0 : lw_At p s m meth c b 6 xs) (hN : NW s) (hK : va_K D vwCl (TYS k) s) {H : Heap} {locs : List Loc} (hP : va_P D vwCl (ALLW k a bb) H) (hD : va_D (fun q : Nat => s.heap.size ≤ q) (ALLW k a bb)) (hS : va_S (fun q : Nat => s.heap.size ≤ q) s.heap H locs) {ls : Array Slot} (hl : lv_has ls 4 [(0, .ref b), (1, .ref (a 0)), (2, .ref (bb 0)), (3, .int 0)]) : W p l e room_1 s m #[Value.ref b] below meth c H locs 66 21009 (lw_Z below #[Value.ref b] s) (F0 m 457 ls []) := by
  obtain ⟨hx, hb, hr, hml, hown, hts0, hX, hbl, hlocks, hgv⟩ := id C0
  have hA : ∀ q : Nat, s.heap.size ≤ q → (fun q : Nat => s.heap.size ≤ q) q := fun _ h => h
  have hbA : ¬ (fun q : Nat => s.heap.size ≤ q) b := Nat.not_le.mpr hbl
  refine lv_aload_n hx hb dL_law_457 rfl (lv_at hl 1 rfl) ?_
  refine lv_aload_n hx hb dL_law_458 rfl (lv_at hl 0 rfl) ?_
  refine lv_iload_n hx hb dL_law_459 rfl (lv_at hl 3 rfl) ?_
  refine lv_iconst (v := 1) hx hb dL_law_460 (by decide) ?_
  refine lv_iadd hx hb dL_law_461 ?_
  refine lv_topi (fun x1 ex1 => ?_)
  obtain rfl : x1 = 1 := ex1.trans (by decide)
  refine va_sld hx hb hX hbl hbA hS (vp_in_iff.mpr (by decide)) dL_law_462 ?_
  refine W.eq (g2 := F0 m 463 ls [.int (xs 1), .ref (a 0)]) rfl ?_
  refine lv_aload_n hx hb dL_law_463 rfl (lv_at hl 0 rfl) ?_
  refine lv_iload_n hx hb dL_law_464 rfl (lv_at hl 3 rfl) ?_
  refine lv_iconst (v := 2) hx hb dL_law_465 (by decide) ?_
  refine lv_iadd hx hb dL_law_466 ?_
  refine lv_topi (fun x2 ex2 => ?_)
  obtain rfl : x2 = 2 := ex2.trans (by decide)
  refine va_sld hx hb hX hbl hbA hS (vp_in_iff.mpr (by decide)) dL_law_467 ?_
  refine W.eq (g2 := F0 m 468 ls [.int (xs 2), .int (xs 1), .ref (a 0)]) rfl ?_
  have htc := fun w h => hts0 w (hwL_X11_need w h)
  refine pvl (C := RX11) (As := [.int (xs 1), .int (xs 2)]) (rest := []) (wc := [e0 k a, e26 k a]) ⟨hx, hb, hml, hown, htc⟩ (c_X11_need l D k a (xs 1) (xs 2)) (cwV 2 htc gS_X11_need rfl rfl rfl (by decide +kernel) ⟨Nat.le_of_ble_eq_true rfl, Nat.le_of_ble_eq_true rfl⟩) hP hK [0, 26] rfl 0 rfl rfl rfl rfl hl.1 rfl (Nat.le_of_ble_eq_true rfl) dL_law_468 ⟨Nat.le_of_ble_eq_true rfl, Nat.le_of_ble_eq_true rfl⟩ (fun r3 hr3 => ?_)
  obtain rfl := hr3
  refine lv_aload_n hx hb dL_law_471 rfl (lv_at hl 2 rfl) ?_
  refine lv_aload_n hx hb dL_law_472 rfl (lv_at hl 0 rfl) ?_
  refine lv_iload_n hx hb dL_law_473 rfl (lv_at hl 3 rfl) ?_
  refine lv_iconst (v := 1) hx hb dL_law_474 (by decide) ?_
  refine lv_iadd hx hb dL_law_475 ?_
  refine lv_topi (fun x4 ex4 => ?_)
  obtain rfl : x4 = 1 := ex4.trans (by decide)
  refine va_sld hx hb hX hbl hbA hS (vp_in_iff.mpr (by decide)) dL_law_476 ?_
  refine W.eq (g2 := F0 m 477 ls [.int (xs 1), .ref (bb 0), .long (-2)]) rfl ?_
  refine lv_aload_n hx hb dL_law_477 rfl (lv_at hl 0 rfl) ?_
  refine lv_iload_n hx hb dL_law_478 rfl (lv_at hl 3 rfl) ?_
  refine lv_iconst (v := 2) hx hb dL_law_479 (by decide) ?_
  refine lv_iadd hx hb dL_law_480 ?_
  refine lv_topi (fun x5 ex5 => ?_)
  obtain rfl : x5 = 2 := ex5.trans (by decide)
  refine va_sld hx hb hX hbl hbA hS (vp_in_iff.mpr (by decide)) dL_law_481 ?_
  refine W.eq (g2 := F0 m 482 ls [.int (xs 2), .int (xs 1), .ref (bb 0), .long (-2)]) rfl ?_
  have htc := fun w h => hts0 w (hwL_X12_need w h)
  refine pvl (C := RX12) (As := [.int (xs 1), .int (xs 2)]) (rest := [.long (-2)]) (wc := [m0 k bb, m1 k bb]) ⟨hx, hb, hml, hown, htc⟩ (c_X12_need l D k bb (xs 1) (xs 2)) (cwV 2 htc gS_X12_need rfl rfl rfl (by decide +kernel) ⟨Nat.le_of_ble_eq_true rfl, Nat.le_of_ble_eq_true rfl⟩) hP hK [48, 49] rfl 48 rfl rfl rfl rfl hl.1 rfl (Nat.le_of_ble_eq_true rfl) dL_law_482 ⟨Nat.le_of_ble_eq_true rfl, Nat.le_of_ble_eq_true rfl⟩ (fun r6 hr6 => ?_)
  obtain rfl := hr6
  refine W.lcmp hx hb dL_law_485 ?_
  refine lv_topi (fun x7 ex7 => ?_)
  obtain rfl : x7 = 0 := ex7.trans (by decide)
  refine lv_if_eq (tgt := 1770) hx hb dL_law_486 (by decide) (fun _ => ?_) (fun h => absurd (by decide) h)
  exact law_tail C0 (Nat.le_refl 6) hS (lv_sub hl [0, 1, 2, 3] rfl) (Nat.le_of_ble_eq_true rfl) (Nat.le_of_ble_eq_true rfl)
set_option maxHeartbeats 4000000 in
set_option maxRecDepth 100000 in
theorem law_8 {p : Program} {l : Launch} {e : Env} {s : State} {m : MethodId} {below : List Frame} {meth : Method} {c : Code} {b : Nat} {xs : Nat → Int32} {D : va_G} {k : Nat → ClassId} {a bb : Nat → Nat} (C0 : lw_At p s m meth c b 6 xs) (hN : NW s) (hK : va_K D vwCl (TYS k) s) {H : Heap} {locs : List Loc} (hP : va_P D vwCl (ALLW k a bb) H) (hD : va_D (fun q : Nat => s.heap.size ≤ q) (ALLW k a bb)) (hS : va_S (fun q : Nat => s.heap.size ≤ q) s.heap H locs) {ls : Array Slot} (hl : lv_has ls 4 [(0, .ref b), (1, .ref (a 0)), (2, .ref (bb 0)), (3, .int 0)]) : W p l e room_1 s m #[Value.ref b] below meth c H locs 66 21009 (lw_Z below #[Value.ref b] s) (F0 m 491 ls []) := by
  obtain ⟨hx, hb, hr, hml, hown, hts0, hX, hbl, hlocks, hgv⟩ := id C0
  have hA : ∀ q : Nat, s.heap.size ≤ q → (fun q : Nat => s.heap.size ≤ q) q := fun _ h => h
  have hbA : ¬ (fun q : Nat => s.heap.size ≤ q) b := Nat.not_le.mpr hbl
  refine lv_aload_n hx hb dL_law_491 rfl (lv_at hl 1 rfl) ?_
  refine lv_aload_n hx hb dL_law_492 rfl (lv_at hl 0 rfl) ?_
  refine lv_iload_n hx hb dL_law_493 rfl (lv_at hl 3 rfl) ?_
  refine lv_iconst (v := 1) hx hb dL_law_494 (by decide) ?_
  refine lv_iadd hx hb dL_law_495 ?_
  refine lv_topi (fun x1 ex1 => ?_)
  obtain rfl : x1 = 1 := ex1.trans (by decide)
  refine va_sld hx hb hX hbl hbA hS (vp_in_iff.mpr (by decide)) dL_law_496 ?_
  refine W.eq (g2 := F0 m 497 ls [.int (xs 1), .ref (a 0)]) rfl ?_
  refine lv_aload_n hx hb dL_law_497 rfl (lv_at hl 0 rfl) ?_
  refine lv_iload_n hx hb dL_law_498 rfl (lv_at hl 3 rfl) ?_
  refine lv_iconst (v := 2) hx hb dL_law_499 (by decide) ?_
  refine lv_iadd hx hb dL_law_500 ?_
  refine lv_topi (fun x2 ex2 => ?_)
  obtain rfl : x2 = 2 := ex2.trans (by decide)
  refine va_sld hx hb hX hbl hbA hS (vp_in_iff.mpr (by decide)) dL_law_501 ?_
  refine W.eq (g2 := F0 m 502 ls [.int (xs 2), .int (xs 1), .ref (a 0)]) rfl ?_
  have htc := fun w h => hts0 w (hwL_X11_load w h)
  refine pvi (C := RX11) (As := [.int (xs 1), .int (xs 2)]) (rest := []) (wc := [e0 k a, e26 k a]) ⟨hx, hb, hml, hown, htc⟩ (c_X11_load l D k a (xs 1) (xs 2)) (cwV 2 htc gS_X11_load rfl rfl rfl (by decide +kernel) ⟨Nat.le_of_ble_eq_true rfl, Nat.le_of_ble_eq_true rfl⟩) hP hK [0, 26] rfl 0 rfl rfl rfl rfl hl.1 rfl (Nat.le_of_ble_eq_true rfl) dL_law_502 ⟨Nat.le_of_ble_eq_true rfl, Nat.le_of_ble_eq_true rfl⟩ (fun r3 hr3 => ?_)
  obtain rfl := hr3
  refine lv_aload_n hx hb dL_law_505 rfl (lv_at hl 2 rfl) ?_
  refine lv_aload_n hx hb dL_law_506 rfl (lv_at hl 0 rfl) ?_
  refine lv_iload_n hx hb dL_law_507 rfl (lv_at hl 3 rfl) ?_
  refine lv_iconst (v := 1) hx hb dL_law_508 (by decide) ?_
  refine lv_iadd hx hb dL_law_509 ?_
  refine lv_topi (fun x4 ex4 => ?_)
  obtain rfl : x4 = 1 := ex4.trans (by decide)
  refine va_sld hx hb hX hbl hbA hS (vp_in_iff.mpr (by decide)) dL_law_510 ?_
  refine W.eq (g2 := F0 m 511 ls [.int (xs 1), .ref (bb 0), .int (-2)]) rfl ?_
  refine lv_aload_n hx hb dL_law_511 rfl (lv_at hl 0 rfl) ?_
  refine lv_iload_n hx hb dL_law_512 rfl (lv_at hl 3 rfl) ?_
  refine lv_iconst (v := 2) hx hb dL_law_513 (by decide) ?_
  refine lv_iadd hx hb dL_law_514 ?_
  refine lv_topi (fun x5 ex5 => ?_)
  obtain rfl : x5 = 2 := ex5.trans (by decide)
  refine va_sld hx hb hX hbl hbA hS (vp_in_iff.mpr (by decide)) dL_law_515 ?_
  refine W.eq (g2 := F0 m 516 ls [.int (xs 2), .int (xs 1), .ref (bb 0), .int (-2)]) rfl ?_
  have htc := fun w h => hts0 w (hwL_X12_load w h)
  refine pvi (C := RX12) (As := [.int (xs 1), .int (xs 2)]) (rest := [.int (-2)]) (wc := [m0 k bb, m1 k bb]) ⟨hx, hb, hml, hown, htc⟩ (c_X12_load l D k bb (xs 1) (xs 2)) (cwV 2 htc gS_X12_load rfl rfl rfl (by decide +kernel) ⟨Nat.le_of_ble_eq_true rfl, Nat.le_of_ble_eq_true rfl⟩) hP hK [48, 49] rfl 48 rfl rfl rfl rfl hl.1 rfl (Nat.le_of_ble_eq_true rfl) dL_law_516 ⟨Nat.le_of_ble_eq_true rfl, Nat.le_of_ble_eq_true rfl⟩ (fun r6 hr6 => ?_)
  obtain rfl := hr6
  refine lv_icmp_eq (tgt := 1770) hx hb dL_law_519 (by decide) (fun _ => ?_) (fun h => absurd (by decide) h)
  exact law_tail C0 (Nat.le_refl 6) hS (lv_sub hl [0, 1, 2, 3] rfl) (Nat.le_of_ble_eq_true rfl) (Nat.le_of_ble_eq_true rfl)
set_option maxHeartbeats 4000000 in
set_option maxRecDepth 100000 in
theorem law_9 {p : Program} {l : Launch} {e : Env} {s : State} {m : MethodId} {below : List Frame} {meth : Method} {c : Code} {b : Nat} {xs : Nat → Int32} {D : va_G} {k : Nat → ClassId} {a bb : Nat → Nat} (C0 : lw_At p s m meth c b 6 xs) (hN : NW s) (hK : va_K D vwCl (TYS k) s) {H : Heap} {locs : List Loc} (hP : va_P D vwCl (ALLW k a bb) H) (hD : va_D (fun q : Nat => s.heap.size ≤ q) (ALLW k a bb)) (hS : va_S (fun q : Nat => s.heap.size ≤ q) s.heap H locs) {ls : Array Slot} (hl : lv_has ls 4 [(0, .ref b), (1, .ref (a 0)), (2, .ref (bb 0)), (3, .int 0)]) : W p l e room_1 s m #[Value.ref b] below meth c H locs 66 21009 (lw_Z below #[Value.ref b] s) (F0 m 524 ls []) := by
  obtain ⟨hx, hb, hr, hml, hown, hts0, hX, hbl, hlocks, hgv⟩ := id C0
  have hA : ∀ q : Nat, s.heap.size ≤ q → (fun q : Nat => s.heap.size ≤ q) q := fun _ h => h
  have hbA : ¬ (fun q : Nat => s.heap.size ≤ q) b := Nat.not_le.mpr hbl
  refine lv_aload_n hx hb dL_law_524 rfl (lv_at hl 1 rfl) ?_
  refine lv_aload_n hx hb dL_law_525 rfl (lv_at hl 0 rfl) ?_
  refine lv_iload_n hx hb dL_law_526 rfl (lv_at hl 3 rfl) ?_
  refine lv_iconst (v := 1) hx hb dL_law_527 (by decide) ?_
  refine lv_iadd hx hb dL_law_528 ?_
  refine lv_topi (fun x1 ex1 => ?_)
  obtain rfl : x1 = 1 := ex1.trans (by decide)
  refine va_sld hx hb hX hbl hbA hS (vp_in_iff.mpr (by decide)) dL_law_529 ?_
  refine W.eq (g2 := F0 m 530 ls [.int (xs 1), .ref (a 0)]) rfl ?_
  have htc := fun w h => hts0 w (hwL_X11_bows w h)
  refine pvi (C := RX11) (As := [.int (xs 1)]) (rest := []) (wc := [e0 k a, e26 k a]) ⟨hx, hb, hml, hown, htc⟩ (c_X11_bows l D k a (xs 1)) (cwV 1 htc gS_X11_bows rfl rfl rfl (by decide +kernel) ⟨Nat.le_of_ble_eq_true rfl, Nat.le_of_ble_eq_true rfl⟩) hP hK [0, 26] rfl 0 rfl rfl rfl rfl hl.1 rfl (Nat.le_of_ble_eq_true rfl) dL_law_530 ⟨Nat.le_of_ble_eq_true rfl, Nat.le_of_ble_eq_true rfl⟩ (fun r2 hr2 => ?_)
  obtain rfl := hr2
  refine lv_aload_n hx hb dL_law_533 rfl (lv_at hl 2 rfl) ?_
  refine lv_aload_n hx hb dL_law_534 rfl (lv_at hl 0 rfl) ?_
  refine lv_iload_n hx hb dL_law_535 rfl (lv_at hl 3 rfl) ?_
  refine lv_iconst (v := 1) hx hb dL_law_536 (by decide) ?_
  refine lv_iadd hx hb dL_law_537 ?_
  refine lv_topi (fun x3 ex3 => ?_)
  obtain rfl : x3 = 1 := ex3.trans (by decide)
  refine va_sld hx hb hX hbl hbA hS (vp_in_iff.mpr (by decide)) dL_law_538 ?_
  refine W.eq (g2 := F0 m 539 ls [.int (xs 1), .ref (bb 0), .int (-2)]) rfl ?_
  have htc := fun w h => hts0 w (hwL_X12_bows w h)
  refine pvi (C := RX12) (As := [.int (xs 1)]) (rest := [.int (-2)]) (wc := [m0 k bb, m1 k bb]) ⟨hx, hb, hml, hown, htc⟩ (c_X12_bows l D k bb (xs 1)) (cwV 1 htc gS_X12_bows rfl rfl rfl (by decide +kernel) ⟨Nat.le_of_ble_eq_true rfl, Nat.le_of_ble_eq_true rfl⟩) hP hK [48, 49] rfl 48 rfl rfl rfl rfl hl.1 rfl (Nat.le_of_ble_eq_true rfl) dL_law_539 ⟨Nat.le_of_ble_eq_true rfl, Nat.le_of_ble_eq_true rfl⟩ (fun r4 hr4 => ?_)
  obtain rfl := hr4
  refine lv_icmp_eq (tgt := 1770) hx hb dL_law_542 (by decide) (fun _ => ?_) (fun h => absurd (by decide) h)
  exact law_tail C0 (Nat.le_refl 6) hS (lv_sub hl [0, 1, 2, 3] rfl) (Nat.le_of_ble_eq_true rfl) (Nat.le_of_ble_eq_true rfl)
set_option maxHeartbeats 4000000 in
set_option maxRecDepth 100000 in
theorem law_10 {p : Program} {l : Launch} {e : Env} {s : State} {m : MethodId} {below : List Frame} {meth : Method} {c : Code} {b : Nat} {xs : Nat → Int32} {D : va_G} {k : Nat → ClassId} {a bb : Nat → Nat} (C0 : lw_At p s m meth c b 6 xs) (hN : NW s) (hK : va_K D vwCl (TYS k) s) {H : Heap} {locs : List Loc} (hP : va_P D vwCl (ALLW k a bb) H) (hD : va_D (fun q : Nat => s.heap.size ≤ q) (ALLW k a bb)) (hS : va_S (fun q : Nat => s.heap.size ≤ q) s.heap H locs) {ls : Array Slot} (hl : lv_has ls 4 [(0, .ref b), (1, .ref (a 0)), (2, .ref (bb 0)), (3, .int 0)]) : W p l e room_1 s m #[Value.ref b] below meth c H locs 66 21009 (lw_Z below #[Value.ref b] s) (F0 m 547 ls []) := by
  obtain ⟨hx, hb, hr, hml, hown, hts0, hX, hbl, hlocks, hgv⟩ := id C0
  have hA : ∀ q : Nat, s.heap.size ≤ q → (fun q : Nat => s.heap.size ≤ q) q := fun _ h => h
  have hbA : ¬ (fun q : Nat => s.heap.size ≤ q) b := Nat.not_le.mpr hbl
  refine lv_aload_n hx hb dL_law_547 rfl (lv_at hl 1 rfl) ?_
  refine lv_aload_n hx hb dL_law_548 rfl (lv_at hl 0 rfl) ?_
  refine lv_iload_n hx hb dL_law_549 rfl (lv_at hl 3 rfl) ?_
  refine lv_iconst (v := 1) hx hb dL_law_550 (by decide) ?_
  refine lv_iadd hx hb dL_law_551 ?_
  refine lv_topi (fun x1 ex1 => ?_)
  obtain rfl : x1 = 1 := ex1.trans (by decide)
  refine va_sld hx hb hX hbl hbA hS (vp_in_iff.mpr (by decide)) dL_law_552 ?_
  refine W.eq (g2 := F0 m 553 ls [.int (xs 1), .ref (a 0)]) rfl ?_
  have htc := fun w h => hts0 w (hwL_X11_press w h)
  refine pvi (C := RX11) (As := [.int (xs 1)]) (rest := []) (wc := [e0 k a, e26 k a, e27 k a]) ⟨hx, hb, hml, hown, htc⟩ (c_X11_press l D k a (xs 1)) (cwV 1 htc gS_X11_press rfl rfl rfl (by decide +kernel) ⟨Nat.le_of_ble_eq_true rfl, Nat.le_of_ble_eq_true rfl⟩) hP hK [0, 26, 27] rfl 0 rfl rfl rfl rfl hl.1 rfl (Nat.le_of_ble_eq_true rfl) dL_law_553 ⟨Nat.le_of_ble_eq_true rfl, Nat.le_of_ble_eq_true rfl⟩ (fun r2 hr2 => ?_)
  obtain rfl := hr2
  refine lv_aload_n hx hb dL_law_556 rfl (lv_at hl 2 rfl) ?_
  refine lv_aload_n hx hb dL_law_557 rfl (lv_at hl 0 rfl) ?_
  refine lv_iload_n hx hb dL_law_558 rfl (lv_at hl 3 rfl) ?_
  refine lv_iconst (v := 1) hx hb dL_law_559 (by decide) ?_
  refine lv_iadd hx hb dL_law_560 ?_
  refine lv_topi (fun x3 ex3 => ?_)
  obtain rfl : x3 = 1 := ex3.trans (by decide)
  refine va_sld hx hb hX hbl hbA hS (vp_in_iff.mpr (by decide)) dL_law_561 ?_
  refine W.eq (g2 := F0 m 562 ls [.int (xs 1), .ref (bb 0), .int (-2)]) rfl ?_
  have htc := fun w h => hts0 w (hwL_X12_press w h)
  refine pvi (C := RX12) (As := [.int (xs 1)]) (rest := [.int (-2)]) (wc := [m0 k bb, m1 k bb]) ⟨hx, hb, hml, hown, htc⟩ (c_X12_press l D k bb (xs 1)) (cwV 1 htc gS_X12_press rfl rfl rfl (by decide +kernel) ⟨Nat.le_of_ble_eq_true rfl, Nat.le_of_ble_eq_true rfl⟩) hP hK [48, 49] rfl 48 rfl rfl rfl rfl hl.1 rfl (Nat.le_of_ble_eq_true rfl) dL_law_562 ⟨Nat.le_of_ble_eq_true rfl, Nat.le_of_ble_eq_true rfl⟩ (fun r4 hr4 => ?_)
  obtain rfl := hr4
  refine lv_icmp_eq (tgt := 1770) hx hb dL_law_565 (by decide) (fun _ => ?_) (fun h => absurd (by decide) h)
  exact law_tail C0 (Nat.le_refl 6) hS (lv_sub hl [0, 1, 2, 3] rfl) (Nat.le_of_ble_eq_true rfl) (Nat.le_of_ble_eq_true rfl)
set_option maxHeartbeats 4000000 in
set_option maxRecDepth 100000 in
theorem law_11 {p : Program} {l : Launch} {e : Env} {s : State} {m : MethodId} {below : List Frame} {meth : Method} {c : Code} {b : Nat} {xs : Nat → Int32} {D : va_G} {k : Nat → ClassId} {a bb : Nat → Nat} (C0 : lw_At p s m meth c b 6 xs) (hN : NW s) (hK : va_K D vwCl (TYS k) s) {H : Heap} {locs : List Loc} (hP : va_P D vwCl (ALLW k a bb) H) (hD : va_D (fun q : Nat => s.heap.size ≤ q) (ALLW k a bb)) (hS : va_S (fun q : Nat => s.heap.size ≤ q) s.heap H locs) {ls : Array Slot} (hl : lv_has ls 4 [(0, .ref b), (1, .ref (a 0)), (2, .ref (bb 0)), (3, .int 0)]) : W p l e room_1 s m #[Value.ref b] below meth c H locs 66 21009 (lw_Z below #[Value.ref b] s) (F0 m 570 ls []) := by
  obtain ⟨hx, hb, hr, hml, hown, hts0, hX, hbl, hlocks, hgv⟩ := id C0
  have hA : ∀ q : Nat, s.heap.size ≤ q → (fun q : Nat => s.heap.size ≤ q) q := fun _ h => h
  have hbA : ¬ (fun q : Nat => s.heap.size ≤ q) b := Nat.not_le.mpr hbl
  refine lv_aload_n hx hb dL_law_570 rfl (lv_at hl 1 rfl) ?_
  refine lv_aload_n hx hb dL_law_571 rfl (lv_at hl 0 rfl) ?_
  refine lv_iload_n hx hb dL_law_572 rfl (lv_at hl 3 rfl) ?_
  refine lv_iconst (v := 1) hx hb dL_law_573 (by decide) ?_
  refine lv_iadd hx hb dL_law_574 ?_
  refine lv_topi (fun x1 ex1 => ?_)
  obtain rfl : x1 = 1 := ex1.trans (by decide)
  refine va_sld hx hb hX hbl hbA hS (vp_in_iff.mpr (by decide)) dL_law_575 ?_
  refine W.eq (g2 := F0 m 576 ls [.int (xs 1), .ref (a 0)]) rfl ?_
  refine lv_aload_n hx hb dL_law_576 rfl (lv_at hl 0 rfl) ?_
  refine lv_iload_n hx hb dL_law_577 rfl (lv_at hl 3 rfl) ?_
  refine lv_iconst (v := 2) hx hb dL_law_578 (by decide) ?_
  refine lv_iadd hx hb dL_law_579 ?_
  refine lv_topi (fun x2 ex2 => ?_)
  obtain rfl : x2 = 2 := ex2.trans (by decide)
  refine va_sld hx hb hX hbl hbA hS (vp_in_iff.mpr (by decide)) dL_law_580 ?_
  refine W.eq (g2 := F0 m 581 ls [.int (xs 2), .int (xs 1), .ref (a 0)]) rfl ?_
  have htc := fun w h => hts0 w (hwL_X11_wear w h)
  refine pvi (C := RX11) (As := [.int (xs 1), .int (xs 2)]) (rest := []) (wc := [e0 k a, e26 k a, e27 k a]) ⟨hx, hb, hml, hown, htc⟩ (c_X11_wear l D k a (xs 1) (xs 2)) (cwV 2 htc gS_X11_wear rfl rfl rfl (by decide +kernel) ⟨Nat.le_of_ble_eq_true rfl, Nat.le_of_ble_eq_true rfl⟩) hP hK [0, 26, 27] rfl 0 rfl rfl rfl rfl hl.1 rfl (Nat.le_of_ble_eq_true rfl) dL_law_581 ⟨Nat.le_of_ble_eq_true rfl, Nat.le_of_ble_eq_true rfl⟩ (fun r3 hr3 => ?_)
  obtain rfl := hr3
  refine lv_aload_n hx hb dL_law_584 rfl (lv_at hl 2 rfl) ?_
  refine lv_aload_n hx hb dL_law_585 rfl (lv_at hl 0 rfl) ?_
  refine lv_iload_n hx hb dL_law_586 rfl (lv_at hl 3 rfl) ?_
  refine lv_iconst (v := 1) hx hb dL_law_587 (by decide) ?_
  refine lv_iadd hx hb dL_law_588 ?_
  refine lv_topi (fun x4 ex4 => ?_)
  obtain rfl : x4 = 1 := ex4.trans (by decide)
  refine va_sld hx hb hX hbl hbA hS (vp_in_iff.mpr (by decide)) dL_law_589 ?_
  refine W.eq (g2 := F0 m 590 ls [.int (xs 1), .ref (bb 0), .int (-2)]) rfl ?_
  refine lv_aload_n hx hb dL_law_590 rfl (lv_at hl 0 rfl) ?_
  refine lv_iload_n hx hb dL_law_591 rfl (lv_at hl 3 rfl) ?_
  refine lv_iconst (v := 2) hx hb dL_law_592 (by decide) ?_
  refine lv_iadd hx hb dL_law_593 ?_
  refine lv_topi (fun x5 ex5 => ?_)
  obtain rfl : x5 = 2 := ex5.trans (by decide)
  refine va_sld hx hb hX hbl hbA hS (vp_in_iff.mpr (by decide)) dL_law_594 ?_
  refine W.eq (g2 := F0 m 595 ls [.int (xs 2), .int (xs 1), .ref (bb 0), .int (-2)]) rfl ?_
  have htc := fun w h => hts0 w (hwL_X12_wear w h)
  refine pvi (C := RX12) (As := [.int (xs 1), .int (xs 2)]) (rest := [.int (-2)]) (wc := [m0 k bb, m1 k bb]) ⟨hx, hb, hml, hown, htc⟩ (c_X12_wear l D k bb (xs 1) (xs 2)) (cwV 2 htc gS_X12_wear rfl rfl rfl (by decide +kernel) ⟨Nat.le_of_ble_eq_true rfl, Nat.le_of_ble_eq_true rfl⟩) hP hK [48, 49] rfl 48 rfl rfl rfl rfl hl.1 rfl (Nat.le_of_ble_eq_true rfl) dL_law_595 ⟨Nat.le_of_ble_eq_true rfl, Nat.le_of_ble_eq_true rfl⟩ (fun r6 hr6 => ?_)
  obtain rfl := hr6
  refine lv_icmp_eq (tgt := 1770) hx hb dL_law_598 (by decide) (fun _ => ?_) (fun h => absurd (by decide) h)
  exact law_tail C0 (Nat.le_refl 6) hS (lv_sub hl [0, 1, 2, 3] rfl) (Nat.le_of_ble_eq_true rfl) (Nat.le_of_ble_eq_true rfl)
set_option maxHeartbeats 4000000 in
set_option maxRecDepth 100000 in
theorem law_12 {p : Program} {l : Launch} {e : Env} {s : State} {m : MethodId} {below : List Frame} {meth : Method} {c : Code} {b : Nat} {xs : Nat → Int32} {D : va_G} {k : Nat → ClassId} {a bb : Nat → Nat} (C0 : lw_At p s m meth c b 6 xs) (hN : NW s) (hK : va_K D vwCl (TYS k) s) {H : Heap} {locs : List Loc} (hP : va_P D vwCl (ALLW k a bb) H) (hD : va_D (fun q : Nat => s.heap.size ≤ q) (ALLW k a bb)) (hS : va_S (fun q : Nat => s.heap.size ≤ q) s.heap H locs) {ls : Array Slot} (hl : lv_has ls 4 [(0, .ref b), (1, .ref (a 0)), (2, .ref (bb 0)), (3, .int 0)]) : W p l e room_1 s m #[Value.ref b] below meth c H locs 66 21009 (lw_Z below #[Value.ref b] s) (F0 m 603 ls []) := by
  obtain ⟨hx, hb, hr, hml, hown, hts0, hX, hbl, hlocks, hgv⟩ := id C0
  have hA : ∀ q : Nat, s.heap.size ≤ q → (fun q : Nat => s.heap.size ≤ q) q := fun _ h => h
  have hbA : ¬ (fun q : Nat => s.heap.size ≤ q) b := Nat.not_le.mpr hbl
  refine lv_aload_n hx hb dL_law_603 rfl (lv_at hl 1 rfl) ?_
  refine lv_aload_n hx hb dL_law_604 rfl (lv_at hl 0 rfl) ?_
  refine lv_iload_n hx hb dL_law_605 rfl (lv_at hl 3 rfl) ?_
  refine lv_iconst (v := 1) hx hb dL_law_606 (by decide) ?_
  refine lv_iadd hx hb dL_law_607 ?_
  refine lv_topi (fun x1 ex1 => ?_)
  obtain rfl : x1 = 1 := ex1.trans (by decide)
  refine va_sld hx hb hX hbl hbA hS (vp_in_iff.mpr (by decide)) dL_law_608 ?_
  refine W.eq (g2 := F0 m 609 ls [.int (xs 1), .ref (a 0)]) rfl ?_
  have htc := fun w h => hts0 w (hwL_X11_goes w h)
  refine pvi (C := RX11) (As := [.int (xs 1)]) (rest := []) (wc := [e0 k a, e26 k a]) ⟨hx, hb, hml, hown, htc⟩ (c_X11_goes l D k a (xs 1)) (cwV 1 htc gS_X11_goes rfl rfl rfl (by decide +kernel) ⟨Nat.le_of_ble_eq_true rfl, Nat.le_of_ble_eq_true rfl⟩) hP hK [0, 26] rfl 0 rfl rfl rfl rfl hl.1 rfl (Nat.le_of_ble_eq_true rfl) dL_law_609 ⟨Nat.le_of_ble_eq_true rfl, Nat.le_of_ble_eq_true rfl⟩ (fun r2 hr2 => ?_)
  obtain rfl := hr2
  refine lv_aload_n hx hb dL_law_612 rfl (lv_at hl 2 rfl) ?_
  refine lv_aload_n hx hb dL_law_613 rfl (lv_at hl 0 rfl) ?_
  refine lv_iload_n hx hb dL_law_614 rfl (lv_at hl 3 rfl) ?_
  refine lv_iconst (v := 1) hx hb dL_law_615 (by decide) ?_
  refine lv_iadd hx hb dL_law_616 ?_
  refine lv_topi (fun x3 ex3 => ?_)
  obtain rfl : x3 = 1 := ex3.trans (by decide)
  refine va_sld hx hb hX hbl hbA hS (vp_in_iff.mpr (by decide)) dL_law_617 ?_
  refine W.eq (g2 := F0 m 618 ls [.int (xs 1), .ref (bb 0), .int (-2)]) rfl ?_
  have htc := fun w h => hts0 w (hwL_X12_goes w h)
  refine pvi (C := RX12) (As := [.int (xs 1)]) (rest := [.int (-2)]) (wc := [m0 k bb, m1 k bb]) ⟨hx, hb, hml, hown, htc⟩ (c_X12_goes l D k bb (xs 1)) (cwV 1 htc gS_X12_goes rfl rfl rfl (by decide +kernel) ⟨Nat.le_of_ble_eq_true rfl, Nat.le_of_ble_eq_true rfl⟩) hP hK [48, 49] rfl 48 rfl rfl rfl rfl hl.1 rfl (Nat.le_of_ble_eq_true rfl) dL_law_618 ⟨Nat.le_of_ble_eq_true rfl, Nat.le_of_ble_eq_true rfl⟩ (fun r4 hr4 => ?_)
  obtain rfl := hr4
  refine lv_icmp_eq (tgt := 1770) hx hb dL_law_621 (by decide) (fun _ => ?_) (fun h => absurd (by decide) h)
  exact law_tail C0 (Nat.le_refl 6) hS (lv_sub hl [0, 1, 2, 3] rfl) (Nat.le_of_ble_eq_true rfl) (Nat.le_of_ble_eq_true rfl)
set_option maxHeartbeats 4000000 in
set_option maxRecDepth 100000 in
theorem law_13 {p : Program} {l : Launch} {e : Env} {s : State} {m : MethodId} {below : List Frame} {meth : Method} {c : Code} {b : Nat} {xs : Nat → Int32} {D : va_G} {k : Nat → ClassId} {a bb : Nat → Nat} (C0 : lw_At p s m meth c b 6 xs) (hN : NW s) (hK : va_K D vwCl (TYS k) s) {H : Heap} {locs : List Loc} (hP : va_P D vwCl (ALLW k a bb) H) (hD : va_D (fun q : Nat => s.heap.size ≤ q) (ALLW k a bb)) (hS : va_S (fun q : Nat => s.heap.size ≤ q) s.heap H locs) {ls : Array Slot} (hl : lv_has ls 4 [(0, .ref b), (1, .ref (a 0)), (2, .ref (bb 0)), (3, .int 0)]) : W p l e room_1 s m #[Value.ref b] below meth c H locs 66 21009 (lw_Z below #[Value.ref b] s) (F0 m 626 ls []) := by
  obtain ⟨hx, hb, hr, hml, hown, hts0, hX, hbl, hlocks, hgv⟩ := id C0
  have hA : ∀ q : Nat, s.heap.size ≤ q → (fun q : Nat => s.heap.size ≤ q) q := fun _ h => h
  have hbA : ¬ (fun q : Nat => s.heap.size ≤ q) b := Nat.not_le.mpr hbl
  refine lv_aload_n hx hb dL_law_626 rfl (lv_at hl 1 rfl) ?_
  refine lv_aload_n hx hb dL_law_627 rfl (lv_at hl 0 rfl) ?_
  refine lv_iload_n hx hb dL_law_628 rfl (lv_at hl 3 rfl) ?_
  refine lv_iconst (v := 1) hx hb dL_law_629 (by decide) ?_
  refine lv_iadd hx hb dL_law_630 ?_
  refine lv_topi (fun x1 ex1 => ?_)
  obtain rfl : x1 = 1 := ex1.trans (by decide)
  refine va_sld hx hb hX hbl hbA hS (vp_in_iff.mpr (by decide)) dL_law_631 ?_
  refine W.eq (g2 := F0 m 632 ls [.int (xs 1), .ref (a 0)]) rfl ?_
  have htc := fun w h => hts0 w (hwL_X11_why w h)
  refine pvi (C := RX11) (As := [.int (xs 1)]) (rest := []) (wc := [e0 k a, e26 k a]) ⟨hx, hb, hml, hown, htc⟩ (c_X11_why l D k a (xs 1)) (cwV 1 htc gS_X11_why rfl rfl rfl (by decide +kernel) ⟨Nat.le_of_ble_eq_true rfl, Nat.le_of_ble_eq_true rfl⟩) hP hK [0, 26] rfl 0 rfl rfl rfl rfl hl.1 rfl (Nat.le_of_ble_eq_true rfl) dL_law_632 ⟨Nat.le_of_ble_eq_true rfl, Nat.le_of_ble_eq_true rfl⟩ (fun r2 hr2 => ?_)
  obtain rfl := hr2
  refine lv_aload_n hx hb dL_law_635 rfl (lv_at hl 2 rfl) ?_
  refine lv_aload_n hx hb dL_law_636 rfl (lv_at hl 0 rfl) ?_
  refine lv_iload_n hx hb dL_law_637 rfl (lv_at hl 3 rfl) ?_
  refine lv_iconst (v := 1) hx hb dL_law_638 (by decide) ?_
  refine lv_iadd hx hb dL_law_639 ?_
  refine lv_topi (fun x3 ex3 => ?_)
  obtain rfl : x3 = 1 := ex3.trans (by decide)
  refine va_sld hx hb hX hbl hbA hS (vp_in_iff.mpr (by decide)) dL_law_640 ?_
  refine W.eq (g2 := F0 m 641 ls [.int (xs 1), .ref (bb 0), .int (-2)]) rfl ?_
  have htc := fun w h => hts0 w (hwL_X12_why w h)
  refine pvi (C := RX12) (As := [.int (xs 1)]) (rest := [.int (-2)]) (wc := [m0 k bb, m1 k bb]) ⟨hx, hb, hml, hown, htc⟩ (c_X12_why l D k bb (xs 1)) (cwV 1 htc gS_X12_why rfl rfl rfl (by decide +kernel) ⟨Nat.le_of_ble_eq_true rfl, Nat.le_of_ble_eq_true rfl⟩) hP hK [48, 49] rfl 48 rfl rfl rfl rfl hl.1 rfl (Nat.le_of_ble_eq_true rfl) dL_law_641 ⟨Nat.le_of_ble_eq_true rfl, Nat.le_of_ble_eq_true rfl⟩ (fun r4 hr4 => ?_)
  obtain rfl := hr4
  refine lv_icmp_eq (tgt := 1770) hx hb dL_law_644 (by decide) (fun _ => ?_) (fun h => absurd (by decide) h)
  exact law_tail C0 (Nat.le_refl 6) hS (lv_sub hl [0, 1, 2, 3] rfl) (Nat.le_of_ble_eq_true rfl) (Nat.le_of_ble_eq_true rfl)
set_option maxHeartbeats 4000000 in
set_option maxRecDepth 100000 in
theorem law_14 {p : Program} {l : Launch} {e : Env} {s : State} {m : MethodId} {below : List Frame} {meth : Method} {c : Code} {b : Nat} {xs : Nat → Int32} {D : va_G} {k : Nat → ClassId} {a bb : Nat → Nat} (C0 : lw_At p s m meth c b 6 xs) (hN : NW s) (hK : va_K D vwCl (TYS k) s) {H : Heap} {locs : List Loc} (hP : va_P D vwCl (ALLW k a bb) H) (hD : va_D (fun q : Nat => s.heap.size ≤ q) (ALLW k a bb)) (hS : va_S (fun q : Nat => s.heap.size ≤ q) s.heap H locs) {ls : Array Slot} (hl : lv_has ls 4 [(0, .ref b), (1, .ref (a 0)), (2, .ref (bb 0)), (3, .int 0)]) : W p l e room_1 s m #[Value.ref b] below meth c H locs 66 21009 (lw_Z below #[Value.ref b] s) (F0 m 649 ls []) := by
  obtain ⟨hx, hb, hr, hml, hown, hts0, hX, hbl, hlocks, hgv⟩ := id C0
  have hA : ∀ q : Nat, s.heap.size ≤ q → (fun q : Nat => s.heap.size ≤ q) q := fun _ h => h
  have hbA : ¬ (fun q : Nat => s.heap.size ≤ q) b := Nat.not_le.mpr hbl
  refine lv_aload_n hx hb dL_law_649 rfl (lv_at hl 1 rfl) ?_
  refine lv_aload_n hx hb dL_law_650 rfl (lv_at hl 0 rfl) ?_
  refine lv_iload_n hx hb dL_law_651 rfl (lv_at hl 3 rfl) ?_
  refine lv_iconst (v := 1) hx hb dL_law_652 (by decide) ?_
  refine lv_iadd hx hb dL_law_653 ?_
  refine lv_topi (fun x1 ex1 => ?_)
  obtain rfl : x1 = 1 := ex1.trans (by decide)
  refine va_sld hx hb hX hbl hbA hS (vp_in_iff.mpr (by decide)) dL_law_654 ?_
  refine W.eq (g2 := F0 m 655 ls [.int (xs 1), .ref (a 0)]) rfl ?_
  have htc := fun w h => hts0 w (hwL_X11_bursts w h)
  refine pvi (C := RX11) (As := [.int (xs 1)]) (rest := []) (wc := [e0 k a, e26 k a]) ⟨hx, hb, hml, hown, htc⟩ (c_X11_bursts l D k a (xs 1)) (cwV 1 htc gS_X11_bursts rfl rfl rfl (by decide +kernel) ⟨Nat.le_of_ble_eq_true rfl, Nat.le_of_ble_eq_true rfl⟩) hP hK [0, 26] rfl 0 rfl rfl rfl rfl hl.1 rfl (Nat.le_of_ble_eq_true rfl) dL_law_655 ⟨Nat.le_of_ble_eq_true rfl, Nat.le_of_ble_eq_true rfl⟩ (fun r2 hr2 => ?_)
  obtain rfl := hr2
  refine lv_aload_n hx hb dL_law_658 rfl (lv_at hl 2 rfl) ?_
  refine lv_aload_n hx hb dL_law_659 rfl (lv_at hl 0 rfl) ?_
  refine lv_iload_n hx hb dL_law_660 rfl (lv_at hl 3 rfl) ?_
  refine lv_iconst (v := 1) hx hb dL_law_661 (by decide) ?_
  refine lv_iadd hx hb dL_law_662 ?_
  refine lv_topi (fun x3 ex3 => ?_)
  obtain rfl : x3 = 1 := ex3.trans (by decide)
  refine va_sld hx hb hX hbl hbA hS (vp_in_iff.mpr (by decide)) dL_law_663 ?_
  refine W.eq (g2 := F0 m 664 ls [.int (xs 1), .ref (bb 0), .int (-2)]) rfl ?_
  have htc := fun w h => hts0 w (hwL_X12_bursts w h)
  refine pvi (C := RX12) (As := [.int (xs 1)]) (rest := [.int (-2)]) (wc := [m0 k bb, m1 k bb]) ⟨hx, hb, hml, hown, htc⟩ (c_X12_bursts l D k bb (xs 1)) (cwV 1 htc gS_X12_bursts rfl rfl rfl (by decide +kernel) ⟨Nat.le_of_ble_eq_true rfl, Nat.le_of_ble_eq_true rfl⟩) hP hK [48, 49] rfl 48 rfl rfl rfl rfl hl.1 rfl (Nat.le_of_ble_eq_true rfl) dL_law_664 ⟨Nat.le_of_ble_eq_true rfl, Nat.le_of_ble_eq_true rfl⟩ (fun r4 hr4 => ?_)
  obtain rfl := hr4
  refine lv_icmp_eq (tgt := 1770) hx hb dL_law_667 (by decide) (fun _ => ?_) (fun h => absurd (by decide) h)
  exact law_tail C0 (Nat.le_refl 6) hS (lv_sub hl [0, 1, 2, 3] rfl) (Nat.le_of_ble_eq_true rfl) (Nat.le_of_ble_eq_true rfl)
set_option maxHeartbeats 4000000 in
set_option maxRecDepth 100000 in
theorem law_15 {p : Program} {l : Launch} {e : Env} {s : State} {m : MethodId} {below : List Frame} {meth : Method} {c : Code} {b : Nat} {xs : Nat → Int32} {D : va_G} {k : Nat → ClassId} {a bb : Nat → Nat} (C0 : lw_At p s m meth c b 6 xs) (hN : NW s) (hK : va_K D vwCl (TYS k) s) {H : Heap} {locs : List Loc} (hP : va_P D vwCl (ALLW k a bb) H) (hD : va_D (fun q : Nat => s.heap.size ≤ q) (ALLW k a bb)) (hS : va_S (fun q : Nat => s.heap.size ≤ q) s.heap H locs) {ls : Array Slot} (hl : lv_has ls 4 [(0, .ref b), (1, .ref (a 0)), (2, .ref (bb 0)), (3, .int 0)]) : W p l e room_1 s m #[Value.ref b] below meth c H locs 66 21009 (lw_Z below #[Value.ref b] s) (F0 m 672 ls []) := by
  obtain ⟨hx, hb, hr, hml, hown, hts0, hX, hbl, hlocks, hgv⟩ := id C0
  have hA : ∀ q : Nat, s.heap.size ≤ q → (fun q : Nat => s.heap.size ≤ q) q := fun _ h => h
  have hbA : ¬ (fun q : Nat => s.heap.size ≤ q) b := Nat.not_le.mpr hbl
  refine lv_aload_n hx hb dL_law_672 rfl (lv_at hl 1 rfl) ?_
  refine lv_aload_n hx hb dL_law_673 rfl (lv_at hl 0 rfl) ?_
  refine lv_iload_n hx hb dL_law_674 rfl (lv_at hl 3 rfl) ?_
  refine lv_iconst (v := 1) hx hb dL_law_675 (by decide) ?_
  refine lv_iadd hx hb dL_law_676 ?_
  refine lv_topi (fun x1 ex1 => ?_)
  obtain rfl : x1 = 1 := ex1.trans (by decide)
  refine va_sld hx hb hX hbl hbA hS (vp_in_iff.mpr (by decide)) dL_law_677 ?_
  refine W.eq (g2 := F0 m 678 ls [.int (xs 1), .ref (a 0)]) rfl ?_
  have htc := fun w h => hts0 w (hwL_X11_first w h)
  refine pvi (C := RX11) (As := [.int (xs 1)]) (rest := []) (wc := [e0 k a, e26 k a]) ⟨hx, hb, hml, hown, htc⟩ (c_X11_first l D k a (xs 1)) (cwV 1 htc gS_X11_first rfl rfl rfl (by decide +kernel) ⟨Nat.le_of_ble_eq_true rfl, Nat.le_of_ble_eq_true rfl⟩) hP hK [0, 26] rfl 0 rfl rfl rfl rfl hl.1 rfl (Nat.le_of_ble_eq_true rfl) dL_law_678 ⟨Nat.le_of_ble_eq_true rfl, Nat.le_of_ble_eq_true rfl⟩ (fun r2 hr2 => ?_)
  obtain rfl := hr2
  refine lv_aload_n hx hb dL_law_681 rfl (lv_at hl 2 rfl) ?_
  refine lv_aload_n hx hb dL_law_682 rfl (lv_at hl 0 rfl) ?_
  refine lv_iload_n hx hb dL_law_683 rfl (lv_at hl 3 rfl) ?_
  refine lv_iconst (v := 1) hx hb dL_law_684 (by decide) ?_
  refine lv_iadd hx hb dL_law_685 ?_
  refine lv_topi (fun x3 ex3 => ?_)
  obtain rfl : x3 = 1 := ex3.trans (by decide)
  refine va_sld hx hb hX hbl hbA hS (vp_in_iff.mpr (by decide)) dL_law_686 ?_
  refine W.eq (g2 := F0 m 687 ls [.int (xs 1), .ref (bb 0), .int (-1)]) rfl ?_
  have htc := fun w h => hts0 w (hwL_X12_first w h)
  refine pvi (C := RX12) (As := [.int (xs 1)]) (rest := [.int (-1)]) (wc := [m0 k bb, m1 k bb]) ⟨hx, hb, hml, hown, htc⟩ (c_X12_first l D k bb (xs 1)) (cwV 1 htc gS_X12_first rfl rfl rfl (by decide +kernel) ⟨Nat.le_of_ble_eq_true rfl, Nat.le_of_ble_eq_true rfl⟩) hP hK [48, 49] rfl 48 rfl rfl rfl rfl hl.1 rfl (Nat.le_of_ble_eq_true rfl) dL_law_687 ⟨Nat.le_of_ble_eq_true rfl, Nat.le_of_ble_eq_true rfl⟩ (fun r4 hr4 => ?_)
  obtain rfl := hr4
  refine lv_icmp_eq (tgt := 1770) hx hb dL_law_690 (by decide) (fun _ => ?_) (fun h => absurd (by decide) h)
  exact law_tail C0 (Nat.le_refl 6) hS (lv_sub hl [0, 1, 2, 3] rfl) (Nat.le_of_ble_eq_true rfl) (Nat.le_of_ble_eq_true rfl)
set_option maxHeartbeats 4000000 in
set_option maxRecDepth 100000 in
theorem law_16 {p : Program} {l : Launch} {e : Env} {s : State} {m : MethodId} {below : List Frame} {meth : Method} {c : Code} {b : Nat} {xs : Nat → Int32} {D : va_G} {k : Nat → ClassId} {a bb : Nat → Nat} (C0 : lw_At p s m meth c b 6 xs) (hN : NW s) (hK : va_K D vwCl (TYS k) s) {H : Heap} {locs : List Loc} (hP : va_P D vwCl (ALLW k a bb) H) (hD : va_D (fun q : Nat => s.heap.size ≤ q) (ALLW k a bb)) (hS : va_S (fun q : Nat => s.heap.size ≤ q) s.heap H locs) {ls : Array Slot} (hl : lv_has ls 4 [(0, .ref b), (1, .ref (a 0)), (2, .ref (bb 0)), (3, .int 0)]) : W p l e room_1 s m #[Value.ref b] below meth c H locs 66 21009 (lw_Z below #[Value.ref b] s) (F0 m 695 ls []) := by
  obtain ⟨hx, hb, hr, hml, hown, hts0, hX, hbl, hlocks, hgv⟩ := id C0
  have hA : ∀ q : Nat, s.heap.size ≤ q → (fun q : Nat => s.heap.size ≤ q) q := fun _ h => h
  have hbA : ¬ (fun q : Nat => s.heap.size ≤ q) b := Nat.not_le.mpr hbl
  refine lv_aload_n hx hb dL_law_695 rfl (lv_at hl 1 rfl) ?_
  refine lv_aload_n hx hb dL_law_696 rfl (lv_at hl 0 rfl) ?_
  refine lv_iload_n hx hb dL_law_697 rfl (lv_at hl 3 rfl) ?_
  refine lv_iconst (v := 1) hx hb dL_law_698 (by decide) ?_
  refine lv_iadd hx hb dL_law_699 ?_
  refine lv_topi (fun x1 ex1 => ?_)
  obtain rfl : x1 = 1 := ex1.trans (by decide)
  refine va_sld hx hb hX hbl hbA hS (vp_in_iff.mpr (by decide)) dL_law_700 ?_
  refine W.eq (g2 := F0 m 701 ls [.int (xs 1), .ref (a 0)]) rfl ?_
  refine lv_aload_n hx hb dL_law_701 rfl (lv_at hl 0 rfl) ?_
  refine lv_iload_n hx hb dL_law_702 rfl (lv_at hl 3 rfl) ?_
  refine lv_iconst (v := 2) hx hb dL_law_703 (by decide) ?_
  refine lv_iadd hx hb dL_law_704 ?_
  refine lv_topi (fun x2 ex2 => ?_)
  obtain rfl : x2 = 2 := ex2.trans (by decide)
  refine va_sld hx hb hX hbl hbA hS (vp_in_iff.mpr (by decide)) dL_law_705 ?_
  refine W.eq (g2 := F0 m 706 ls [.int (xs 2), .int (xs 1), .ref (a 0)]) rfl ?_
  have htc := fun w h => hts0 w (hwL_X11_next w h)
  refine pvi (C := RX11) (As := [.int (xs 1), .int (xs 2)]) (rest := []) (wc := [e0 k a, e26 k a]) ⟨hx, hb, hml, hown, htc⟩ (c_X11_next l D k a (xs 1) (xs 2)) (cwV 2 htc gS_X11_next rfl rfl rfl (by decide +kernel) ⟨Nat.le_of_ble_eq_true rfl, Nat.le_of_ble_eq_true rfl⟩) hP hK [0, 26] rfl 0 rfl rfl rfl rfl hl.1 rfl (Nat.le_of_ble_eq_true rfl) dL_law_706 ⟨Nat.le_of_ble_eq_true rfl, Nat.le_of_ble_eq_true rfl⟩ (fun r3 hr3 => ?_)
  obtain rfl := hr3
  refine lv_aload_n hx hb dL_law_709 rfl (lv_at hl 2 rfl) ?_
  refine lv_aload_n hx hb dL_law_710 rfl (lv_at hl 0 rfl) ?_
  refine lv_iload_n hx hb dL_law_711 rfl (lv_at hl 3 rfl) ?_
  refine lv_iconst (v := 1) hx hb dL_law_712 (by decide) ?_
  refine lv_iadd hx hb dL_law_713 ?_
  refine lv_topi (fun x4 ex4 => ?_)
  obtain rfl : x4 = 1 := ex4.trans (by decide)
  refine va_sld hx hb hX hbl hbA hS (vp_in_iff.mpr (by decide)) dL_law_714 ?_
  refine W.eq (g2 := F0 m 715 ls [.int (xs 1), .ref (bb 0), .int (-2)]) rfl ?_
  refine lv_aload_n hx hb dL_law_715 rfl (lv_at hl 0 rfl) ?_
  refine lv_iload_n hx hb dL_law_716 rfl (lv_at hl 3 rfl) ?_
  refine lv_iconst (v := 2) hx hb dL_law_717 (by decide) ?_
  refine lv_iadd hx hb dL_law_718 ?_
  refine lv_topi (fun x5 ex5 => ?_)
  obtain rfl : x5 = 2 := ex5.trans (by decide)
  refine va_sld hx hb hX hbl hbA hS (vp_in_iff.mpr (by decide)) dL_law_719 ?_
  refine W.eq (g2 := F0 m 720 ls [.int (xs 2), .int (xs 1), .ref (bb 0), .int (-2)]) rfl ?_
  have htc := fun w h => hts0 w (hwL_X12_next w h)
  refine pvi (C := RX12) (As := [.int (xs 1), .int (xs 2)]) (rest := [.int (-2)]) (wc := [m0 k bb, m1 k bb]) ⟨hx, hb, hml, hown, htc⟩ (c_X12_next l D k bb (xs 1) (xs 2)) (cwV 2 htc gS_X12_next rfl rfl rfl (by decide +kernel) ⟨Nat.le_of_ble_eq_true rfl, Nat.le_of_ble_eq_true rfl⟩) hP hK [48, 49] rfl 48 rfl rfl rfl rfl hl.1 rfl (Nat.le_of_ble_eq_true rfl) dL_law_720 ⟨Nat.le_of_ble_eq_true rfl, Nat.le_of_ble_eq_true rfl⟩ (fun r6 hr6 => ?_)
  obtain rfl := hr6
  refine lv_icmp_eq (tgt := 1770) hx hb dL_law_723 (by decide) (fun _ => ?_) (fun h => absurd (by decide) h)
  exact law_tail C0 (Nat.le_refl 6) hS (lv_sub hl [0, 1, 2, 3] rfl) (Nat.le_of_ble_eq_true rfl) (Nat.le_of_ble_eq_true rfl)
set_option maxHeartbeats 4000000 in
set_option maxRecDepth 100000 in
theorem law_17 {p : Program} {l : Launch} {e : Env} {s : State} {m : MethodId} {below : List Frame} {meth : Method} {c : Code} {b : Nat} {xs : Nat → Int32} {D : va_G} {k : Nat → ClassId} {a bb : Nat → Nat} (C0 : lw_At p s m meth c b 6 xs) (hN : NW s) (hK : va_K D vwCl (TYS k) s) {H : Heap} {locs : List Loc} (hP : va_P D vwCl (ALLW k a bb) H) (hD : va_D (fun q : Nat => s.heap.size ≤ q) (ALLW k a bb)) (hS : va_S (fun q : Nat => s.heap.size ≤ q) s.heap H locs) {ls : Array Slot} (hl : lv_has ls 4 [(0, .ref b), (1, .ref (a 0)), (2, .ref (bb 0)), (3, .int 0)]) : W p l e room_1 s m #[Value.ref b] below meth c H locs 66 21009 (lw_Z below #[Value.ref b] s) (F0 m 728 ls []) := by
  obtain ⟨hx, hb, hr, hml, hown, hts0, hX, hbl, hlocks, hgv⟩ := id C0
  have hA : ∀ q : Nat, s.heap.size ≤ q → (fun q : Nat => s.heap.size ≤ q) q := fun _ h => h
  have hbA : ¬ (fun q : Nat => s.heap.size ≤ q) b := Nat.not_le.mpr hbl
  refine lv_aload_n hx hb dL_law_728 rfl (lv_at hl 1 rfl) ?_
  refine lv_aload_n hx hb dL_law_729 rfl (lv_at hl 0 rfl) ?_
  refine lv_iload_n hx hb dL_law_730 rfl (lv_at hl 3 rfl) ?_
  refine lv_iconst (v := 1) hx hb dL_law_731 (by decide) ?_
  refine lv_iadd hx hb dL_law_732 ?_
  refine lv_topi (fun x1 ex1 => ?_)
  obtain rfl : x1 = 1 := ex1.trans (by decide)
  refine va_sld hx hb hX hbl hbA hS (vp_in_iff.mpr (by decide)) dL_law_733 ?_
  refine W.eq (g2 := F0 m 734 ls [.int (xs 1), .ref (a 0)]) rfl ?_
  refine lv_aload_n hx hb dL_law_734 rfl (lv_at hl 0 rfl) ?_
  refine lv_iload_n hx hb dL_law_735 rfl (lv_at hl 3 rfl) ?_
  refine lv_iconst (v := 2) hx hb dL_law_736 (by decide) ?_
  refine lv_iadd hx hb dL_law_737 ?_
  refine lv_topi (fun x2 ex2 => ?_)
  obtain rfl : x2 = 2 := ex2.trans (by decide)
  refine va_sld hx hb hX hbl hbA hS (vp_in_iff.mpr (by decide)) dL_law_738 ?_
  refine W.eq (g2 := F0 m 739 ls [.int (xs 2), .int (xs 1), .ref (a 0)]) rfl ?_
  have htc := fun w h => hts0 w (hwL_X11_under w h)
  refine pvi (C := RX11) (As := [.int (xs 1), .int (xs 2)]) (rest := []) (wc := [e0 k a, e26 k a]) ⟨hx, hb, hml, hown, htc⟩ (c_X11_under l D k a (xs 1) (xs 2)) (cwV 2 htc gS_X11_under rfl rfl rfl (by decide +kernel) ⟨Nat.le_of_ble_eq_true rfl, Nat.le_of_ble_eq_true rfl⟩) hP hK [0, 26] rfl 0 rfl rfl rfl rfl hl.1 rfl (Nat.le_of_ble_eq_true rfl) dL_law_739 ⟨Nat.le_of_ble_eq_true rfl, Nat.le_of_ble_eq_true rfl⟩ (fun r3 hr3 => ?_)
  obtain rfl := hr3
  refine lv_aload_n hx hb dL_law_742 rfl (lv_at hl 2 rfl) ?_
  refine lv_aload_n hx hb dL_law_743 rfl (lv_at hl 0 rfl) ?_
  refine lv_iload_n hx hb dL_law_744 rfl (lv_at hl 3 rfl) ?_
  refine lv_iconst (v := 1) hx hb dL_law_745 (by decide) ?_
  refine lv_iadd hx hb dL_law_746 ?_
  refine lv_topi (fun x4 ex4 => ?_)
  obtain rfl : x4 = 1 := ex4.trans (by decide)
  refine va_sld hx hb hX hbl hbA hS (vp_in_iff.mpr (by decide)) dL_law_747 ?_
  refine W.eq (g2 := F0 m 748 ls [.int (xs 1), .ref (bb 0), .int (-2)]) rfl ?_
  refine lv_aload_n hx hb dL_law_748 rfl (lv_at hl 0 rfl) ?_
  refine lv_iload_n hx hb dL_law_749 rfl (lv_at hl 3 rfl) ?_
  refine lv_iconst (v := 2) hx hb dL_law_750 (by decide) ?_
  refine lv_iadd hx hb dL_law_751 ?_
  refine lv_topi (fun x5 ex5 => ?_)
  obtain rfl : x5 = 2 := ex5.trans (by decide)
  refine va_sld hx hb hX hbl hbA hS (vp_in_iff.mpr (by decide)) dL_law_752 ?_
  refine W.eq (g2 := F0 m 753 ls [.int (xs 2), .int (xs 1), .ref (bb 0), .int (-2)]) rfl ?_
  have htc := fun w h => hts0 w (hwL_X12_under w h)
  refine pvi (C := RX12) (As := [.int (xs 1), .int (xs 2)]) (rest := [.int (-2)]) (wc := [m0 k bb, m1 k bb]) ⟨hx, hb, hml, hown, htc⟩ (c_X12_under l D k bb (xs 1) (xs 2)) (cwV 2 htc gS_X12_under rfl rfl rfl (by decide +kernel) ⟨Nat.le_of_ble_eq_true rfl, Nat.le_of_ble_eq_true rfl⟩) hP hK [48, 49] rfl 48 rfl rfl rfl rfl hl.1 rfl (Nat.le_of_ble_eq_true rfl) dL_law_753 ⟨Nat.le_of_ble_eq_true rfl, Nat.le_of_ble_eq_true rfl⟩ (fun r6 hr6 => ?_)
  obtain rfl := hr6
  refine lv_icmp_eq (tgt := 1770) hx hb dL_law_756 (by decide) (fun _ => ?_) (fun h => absurd (by decide) h)
  exact law_tail C0 (Nat.le_refl 6) hS (lv_sub hl [0, 1, 2, 3] rfl) (Nat.le_of_ble_eq_true rfl) (Nat.le_of_ble_eq_true rfl)
set_option maxHeartbeats 4000000 in
set_option maxRecDepth 100000 in
theorem law_18 {p : Program} {l : Launch} {e : Env} {s : State} {m : MethodId} {below : List Frame} {meth : Method} {c : Code} {b : Nat} {xs : Nat → Int32} {D : va_G} {k : Nat → ClassId} {a bb : Nat → Nat} (C0 : lw_At p s m meth c b 6 xs) (hN : NW s) (hK : va_K D vwCl (TYS k) s) {H : Heap} {locs : List Loc} (hP : va_P D vwCl (ALLW k a bb) H) (hD : va_D (fun q : Nat => s.heap.size ≤ q) (ALLW k a bb)) (hS : va_S (fun q : Nat => s.heap.size ≤ q) s.heap H locs) {ls : Array Slot} (hl : lv_has ls 4 [(0, .ref b), (1, .ref (a 0)), (2, .ref (bb 0)), (3, .int 0)]) : W p l e room_1 s m #[Value.ref b] below meth c H locs 66 21009 (lw_Z below #[Value.ref b] s) (F0 m 761 ls []) := by
  obtain ⟨hx, hb, hr, hml, hown, hts0, hX, hbl, hlocks, hgv⟩ := id C0
  have hA : ∀ q : Nat, s.heap.size ≤ q → (fun q : Nat => s.heap.size ≤ q) q := fun _ h => h
  have hbA : ¬ (fun q : Nat => s.heap.size ≤ q) b := Nat.not_le.mpr hbl
  refine lv_aload_n hx hb dL_law_761 rfl (lv_at hl 1 rfl) ?_
  refine lv_aload_n hx hb dL_law_762 rfl (lv_at hl 0 rfl) ?_
  refine lv_iload_n hx hb dL_law_763 rfl (lv_at hl 3 rfl) ?_
  refine lv_iconst (v := 1) hx hb dL_law_764 (by decide) ?_
  refine lv_iadd hx hb dL_law_765 ?_
  refine lv_topi (fun x1 ex1 => ?_)
  obtain rfl : x1 = 1 := ex1.trans (by decide)
  refine va_sld hx hb hX hbl hbA hS (vp_in_iff.mpr (by decide)) dL_law_766 ?_
  refine W.eq (g2 := F0 m 767 ls [.int (xs 1), .ref (a 0)]) rfl ?_
  have htc := fun w h => hts0 w (hwL_X11_stay w h)
  refine pvi (C := RX11) (As := [.int (xs 1)]) (rest := []) (wc := [e0 k a, e26 k a]) ⟨hx, hb, hml, hown, htc⟩ (c_X11_stay l D k a (xs 1)) (cwV 1 htc gS_X11_stay rfl rfl rfl (by decide +kernel) ⟨Nat.le_of_ble_eq_true rfl, Nat.le_of_ble_eq_true rfl⟩) hP hK [0, 26] rfl 0 rfl rfl rfl rfl hl.1 rfl (Nat.le_of_ble_eq_true rfl) dL_law_767 ⟨Nat.le_of_ble_eq_true rfl, Nat.le_of_ble_eq_true rfl⟩ (fun r2 hr2 => ?_)
  obtain rfl := hr2
  refine lv_aload_n hx hb dL_law_770 rfl (lv_at hl 2 rfl) ?_
  refine lv_aload_n hx hb dL_law_771 rfl (lv_at hl 0 rfl) ?_
  refine lv_iload_n hx hb dL_law_772 rfl (lv_at hl 3 rfl) ?_
  refine lv_iconst (v := 1) hx hb dL_law_773 (by decide) ?_
  refine lv_iadd hx hb dL_law_774 ?_
  refine lv_topi (fun x3 ex3 => ?_)
  obtain rfl : x3 = 1 := ex3.trans (by decide)
  refine va_sld hx hb hX hbl hbA hS (vp_in_iff.mpr (by decide)) dL_law_775 ?_
  refine W.eq (g2 := F0 m 776 ls [.int (xs 1), .ref (bb 0), .int (-2)]) rfl ?_
  have htc := fun w h => hts0 w (hwL_X12_stay w h)
  refine pvi (C := RX12) (As := [.int (xs 1)]) (rest := [.int (-2)]) (wc := [m0 k bb, m1 k bb]) ⟨hx, hb, hml, hown, htc⟩ (c_X12_stay l D k bb (xs 1)) (cwV 1 htc gS_X12_stay rfl rfl rfl (by decide +kernel) ⟨Nat.le_of_ble_eq_true rfl, Nat.le_of_ble_eq_true rfl⟩) hP hK [48, 49] rfl 48 rfl rfl rfl rfl hl.1 rfl (Nat.le_of_ble_eq_true rfl) dL_law_776 ⟨Nat.le_of_ble_eq_true rfl, Nat.le_of_ble_eq_true rfl⟩ (fun r4 hr4 => ?_)
  obtain rfl := hr4
  refine lv_icmp_eq (tgt := 1770) hx hb dL_law_779 (by decide) (fun _ => ?_) (fun h => absurd (by decide) h)
  exact law_tail C0 (Nat.le_refl 6) hS (lv_sub hl [0, 1, 2, 3] rfl) (Nat.le_of_ble_eq_true rfl) (Nat.le_of_ble_eq_true rfl)
set_option maxHeartbeats 4000000 in
set_option maxRecDepth 100000 in
theorem law_19 {p : Program} {l : Launch} {e : Env} {s : State} {m : MethodId} {below : List Frame} {meth : Method} {c : Code} {b : Nat} {xs : Nat → Int32} {D : va_G} {k : Nat → ClassId} {a bb : Nat → Nat} (C0 : lw_At p s m meth c b 6 xs) (hN : NW s) (hK : va_K D vwCl (TYS k) s) {H : Heap} {locs : List Loc} (hP : va_P D vwCl (ALLW k a bb) H) (hD : va_D (fun q : Nat => s.heap.size ≤ q) (ALLW k a bb)) (hS : va_S (fun q : Nat => s.heap.size ≤ q) s.heap H locs) {ls : Array Slot} (hl : lv_has ls 4 [(0, .ref b), (1, .ref (a 0)), (2, .ref (bb 0)), (3, .int 0)]) : W p l e room_1 s m #[Value.ref b] below meth c H locs 66 21009 (lw_Z below #[Value.ref b] s) (F0 m 784 ls []) := by
  obtain ⟨hx, hb, hr, hml, hown, hts0, hX, hbl, hlocks, hgv⟩ := id C0
  have hA : ∀ q : Nat, s.heap.size ≤ q → (fun q : Nat => s.heap.size ≤ q) q := fun _ h => h
  have hbA : ¬ (fun q : Nat => s.heap.size ≤ q) b := Nat.not_le.mpr hbl
  refine lv_aload_n hx hb dL_law_784 rfl (lv_at hl 1 rfl) ?_
  refine lv_aload_n hx hb dL_law_785 rfl (lv_at hl 0 rfl) ?_
  refine lv_iload_n hx hb dL_law_786 rfl (lv_at hl 3 rfl) ?_
  refine lv_iconst (v := 1) hx hb dL_law_787 (by decide) ?_
  refine lv_iadd hx hb dL_law_788 ?_
  refine lv_topi (fun x1 ex1 => ?_)
  obtain rfl : x1 = 1 := ex1.trans (by decide)
  refine va_sld hx hb hX hbl hbA hS (vp_in_iff.mpr (by decide)) dL_law_789 ?_
  refine W.eq (g2 := F0 m 790 ls [.int (xs 1), .ref (a 0)]) rfl ?_
  have htc := fun w h => hts0 w (hwL_X11_cap w h)
  refine pvi (C := RX11) (As := [.int (xs 1)]) (rest := []) (wc := [e0 k a, e26 k a]) ⟨hx, hb, hml, hown, htc⟩ (c_X11_cap l D k a (xs 1)) (cwV 1 htc gS_X11_cap rfl rfl rfl (by decide +kernel) ⟨Nat.le_of_ble_eq_true rfl, Nat.le_of_ble_eq_true rfl⟩) hP hK [0, 26] rfl 0 rfl rfl rfl rfl hl.1 rfl (Nat.le_of_ble_eq_true rfl) dL_law_790 ⟨Nat.le_of_ble_eq_true rfl, Nat.le_of_ble_eq_true rfl⟩ (fun r2 hr2 => ?_)
  obtain rfl := hr2
  refine lv_aload_n hx hb dL_law_793 rfl (lv_at hl 2 rfl) ?_
  refine lv_aload_n hx hb dL_law_794 rfl (lv_at hl 0 rfl) ?_
  refine lv_iload_n hx hb dL_law_795 rfl (lv_at hl 3 rfl) ?_
  refine lv_iconst (v := 1) hx hb dL_law_796 (by decide) ?_
  refine lv_iadd hx hb dL_law_797 ?_
  refine lv_topi (fun x3 ex3 => ?_)
  obtain rfl : x3 = 1 := ex3.trans (by decide)
  refine va_sld hx hb hX hbl hbA hS (vp_in_iff.mpr (by decide)) dL_law_798 ?_
  refine W.eq (g2 := F0 m 799 ls [.int (xs 1), .ref (bb 0), .int (-2)]) rfl ?_
  have htc := fun w h => hts0 w (hwL_X12_cap w h)
  refine pvi (C := RX12) (As := [.int (xs 1)]) (rest := [.int (-2)]) (wc := [m0 k bb, m1 k bb]) ⟨hx, hb, hml, hown, htc⟩ (c_X12_cap l D k bb (xs 1)) (cwV 1 htc gS_X12_cap rfl rfl rfl (by decide +kernel) ⟨Nat.le_of_ble_eq_true rfl, Nat.le_of_ble_eq_true rfl⟩) hP hK [48, 49] rfl 48 rfl rfl rfl rfl hl.1 rfl (Nat.le_of_ble_eq_true rfl) dL_law_799 ⟨Nat.le_of_ble_eq_true rfl, Nat.le_of_ble_eq_true rfl⟩ (fun r4 hr4 => ?_)
  obtain rfl := hr4
  refine lv_icmp_eq (tgt := 1770) hx hb dL_law_802 (by decide) (fun _ => ?_) (fun h => absurd (by decide) h)
  exact law_tail C0 (Nat.le_refl 6) hS (lv_sub hl [0, 1, 2, 3] rfl) (Nat.le_of_ble_eq_true rfl) (Nat.le_of_ble_eq_true rfl)
set_option maxHeartbeats 4000000 in
set_option maxRecDepth 100000 in
theorem law_20 {p : Program} {l : Launch} {e : Env} {s : State} {m : MethodId} {below : List Frame} {meth : Method} {c : Code} {b : Nat} {xs : Nat → Int32} {D : va_G} {k : Nat → ClassId} {a bb : Nat → Nat} (C0 : lw_At p s m meth c b 6 xs) (hN : NW s) (hK : va_K D vwCl (TYS k) s) {H : Heap} {locs : List Loc} (hP : va_P D vwCl (ALLW k a bb) H) (hD : va_D (fun q : Nat => s.heap.size ≤ q) (ALLW k a bb)) (hS : va_S (fun q : Nat => s.heap.size ≤ q) s.heap H locs) {ls : Array Slot} (hl : lv_has ls 4 [(0, .ref b), (1, .ref (a 0)), (2, .ref (bb 0)), (3, .int 0)]) : W p l e room_1 s m #[Value.ref b] below meth c H locs 66 21009 (lw_Z below #[Value.ref b] s) (F0 m 807 ls []) := by
  obtain ⟨hx, hb, hr, hml, hown, hts0, hX, hbl, hlocks, hgv⟩ := id C0
  have hA : ∀ q : Nat, s.heap.size ≤ q → (fun q : Nat => s.heap.size ≤ q) q := fun _ h => h
  have hbA : ¬ (fun q : Nat => s.heap.size ≤ q) b := Nat.not_le.mpr hbl
  refine lv_aload_n hx hb dL_law_807 rfl (lv_at hl 1 rfl) ?_
  refine lv_aload_n hx hb dL_law_808 rfl (lv_at hl 0 rfl) ?_
  refine lv_iload_n hx hb dL_law_809 rfl (lv_at hl 3 rfl) ?_
  refine lv_iconst (v := 1) hx hb dL_law_810 (by decide) ?_
  refine lv_iadd hx hb dL_law_811 ?_
  refine lv_topi (fun x1 ex1 => ?_)
  obtain rfl : x1 = 1 := ex1.trans (by decide)
  refine va_sld hx hb hX hbl hbA hS (vp_in_iff.mpr (by decide)) dL_law_812 ?_
  refine W.eq (g2 := F0 m 813 ls [.int (xs 1), .ref (a 0)]) rfl ?_
  refine lv_aload_n hx hb dL_law_813 rfl (lv_at hl 0 rfl) ?_
  refine lv_iload_n hx hb dL_law_814 rfl (lv_at hl 3 rfl) ?_
  refine lv_iconst (v := 2) hx hb dL_law_815 (by decide) ?_
  refine lv_iadd hx hb dL_law_816 ?_
  refine lv_topi (fun x2 ex2 => ?_)
  obtain rfl : x2 = 2 := ex2.trans (by decide)
  refine va_sld hx hb hX hbl hbA hS (vp_in_iff.mpr (by decide)) dL_law_817 ?_
  refine W.eq (g2 := F0 m 818 ls [.int (xs 2), .int (xs 1), .ref (a 0)]) rfl ?_
  refine lv_if_eq (tgt := 825) hx hb dL_law_818 (by decide) (fun c3 => ?_) (fun c3 => ?_)
  · refine lv_iconst (v := 0) hx hb dL_law_825 (by decide) ?_
    have htc := fun w h => hts0 w (hwL_X11_prop w h)
    refine pvi (C := RX11) (As := [.int (xs 1), .int 0]) (rest := []) (wc := [e0 k a, e26 k a]) ⟨hx, hb, hml, hown, htc⟩ (c_X11_prop l D k a (xs 1) 0) (cwV 2 htc gS_X11_prop rfl rfl rfl (by decide +kernel) ⟨Nat.le_of_ble_eq_true rfl, Nat.le_of_ble_eq_true rfl⟩) hP hK [0, 26] rfl 0 rfl rfl rfl rfl hl.1 rfl (Nat.le_of_ble_eq_true rfl) dL_law_826 ⟨Nat.le_of_ble_eq_true rfl, Nat.le_of_ble_eq_true rfl⟩ (fun r4 hr4 => ?_)
    obtain rfl := hr4
    refine lv_aload_n hx hb dL_law_829 rfl (lv_at hl 2 rfl) ?_
    refine lv_aload_n hx hb dL_law_830 rfl (lv_at hl 0 rfl) ?_
    refine lv_iload_n hx hb dL_law_831 rfl (lv_at hl 3 rfl) ?_
    refine lv_iconst (v := 1) hx hb dL_law_832 (by decide) ?_
    refine lv_iadd hx hb dL_law_833 ?_
    refine lv_topi (fun x5 ex5 => ?_)
    obtain rfl : x5 = 1 := ex5.trans (by decide)
    refine va_sld hx hb hX hbl hbA hS (vp_in_iff.mpr (by decide)) dL_law_834 ?_
    refine W.eq (g2 := F0 m 835 ls [.int (xs 1), .ref (bb 0), .int (-2)]) rfl ?_
    refine lv_aload_n hx hb dL_law_835 rfl (lv_at hl 0 rfl) ?_
    refine lv_iload_n hx hb dL_law_836 rfl (lv_at hl 3 rfl) ?_
    refine lv_iconst (v := 2) hx hb dL_law_837 (by decide) ?_
    refine lv_iadd hx hb dL_law_838 ?_
    refine lv_topi (fun x6 ex6 => ?_)
    obtain rfl : x6 = 2 := ex6.trans (by decide)
    refine va_sld hx hb hX hbl hbA hS (vp_in_iff.mpr (by decide)) dL_law_839 ?_
    refine W.eq (g2 := F0 m 840 ls [.int (xs 2), .int (xs 1), .ref (bb 0), .int (-2)]) rfl ?_
    refine lv_if_eq (tgt := 847) hx hb dL_law_840 (by decide) (fun _ => ?_) (fun h => absurd (c3) h)
    refine lv_iconst (v := 0) hx hb dL_law_847 (by decide) ?_
    have htc := fun w h => hts0 w (hwL_X12_prop w h)
    refine pvi (C := RX12) (As := [.int (xs 1), .int 0]) (rest := [.int (-2)]) (wc := [m0 k bb, m1 k bb]) ⟨hx, hb, hml, hown, htc⟩ (c_X12_prop l D k bb (xs 1) 0) (cwV 2 htc gS_X12_prop rfl rfl rfl (by decide +kernel) ⟨Nat.le_of_ble_eq_true rfl, Nat.le_of_ble_eq_true rfl⟩) hP hK [48, 49] rfl 48 rfl rfl rfl rfl hl.1 rfl (Nat.le_of_ble_eq_true rfl) dL_law_848 ⟨Nat.le_of_ble_eq_true rfl, Nat.le_of_ble_eq_true rfl⟩ (fun r7 hr7 => ?_)
    obtain rfl := hr7
    refine lv_icmp_eq (tgt := 1770) hx hb dL_law_851 (by decide) (fun _ => ?_) (fun h => absurd (by decide) h)
    exact law_tail C0 (Nat.le_refl 6) hS (lv_sub hl [0, 1, 2, 3] rfl) (Nat.le_of_ble_eq_true rfl) (Nat.le_of_ble_eq_true rfl)
  · refine lv_iconst (v := 1) hx hb dL_law_821 (by decide) ?_
    refine lv_goto (tgt := 826) hx hb dL_law_822 (by decide) ?_
    have htc := fun w h => hts0 w (hwL_X11_prop w h)
    refine pvi (C := RX11) (As := [.int (xs 1), .int 1]) (rest := []) (wc := [e0 k a, e26 k a]) ⟨hx, hb, hml, hown, htc⟩ (c_X11_prop l D k a (xs 1) 1) (cwV 2 htc gS_X11_prop rfl rfl rfl (by decide +kernel) ⟨Nat.le_of_ble_eq_true rfl, Nat.le_of_ble_eq_true rfl⟩) hP hK [0, 26] rfl 0 rfl rfl rfl rfl hl.1 rfl (Nat.le_of_ble_eq_true rfl) dL_law_826 ⟨Nat.le_of_ble_eq_true rfl, Nat.le_of_ble_eq_true rfl⟩ (fun r8 hr8 => ?_)
    obtain rfl := hr8
    refine lv_aload_n hx hb dL_law_829 rfl (lv_at hl 2 rfl) ?_
    refine lv_aload_n hx hb dL_law_830 rfl (lv_at hl 0 rfl) ?_
    refine lv_iload_n hx hb dL_law_831 rfl (lv_at hl 3 rfl) ?_
    refine lv_iconst (v := 1) hx hb dL_law_832 (by decide) ?_
    refine lv_iadd hx hb dL_law_833 ?_
    refine lv_topi (fun x9 ex9 => ?_)
    obtain rfl : x9 = 1 := ex9.trans (by decide)
    refine va_sld hx hb hX hbl hbA hS (vp_in_iff.mpr (by decide)) dL_law_834 ?_
    refine W.eq (g2 := F0 m 835 ls [.int (xs 1), .ref (bb 0), .int (-2)]) rfl ?_
    refine lv_aload_n hx hb dL_law_835 rfl (lv_at hl 0 rfl) ?_
    refine lv_iload_n hx hb dL_law_836 rfl (lv_at hl 3 rfl) ?_
    refine lv_iconst (v := 2) hx hb dL_law_837 (by decide) ?_
    refine lv_iadd hx hb dL_law_838 ?_
    refine lv_topi (fun x10 ex10 => ?_)
    obtain rfl : x10 = 2 := ex10.trans (by decide)
    refine va_sld hx hb hX hbl hbA hS (vp_in_iff.mpr (by decide)) dL_law_839 ?_
    refine W.eq (g2 := F0 m 840 ls [.int (xs 2), .int (xs 1), .ref (bb 0), .int (-2)]) rfl ?_
    refine lv_if_eq (tgt := 847) hx hb dL_law_840 (by decide) (fun h => absurd h (c3)) (fun _ => ?_)
    refine lv_iconst (v := 1) hx hb dL_law_843 (by decide) ?_
    refine lv_goto (tgt := 848) hx hb dL_law_844 (by decide) ?_
    have htc := fun w h => hts0 w (hwL_X12_prop w h)
    refine pvi (C := RX12) (As := [.int (xs 1), .int 1]) (rest := [.int (-2)]) (wc := [m0 k bb, m1 k bb]) ⟨hx, hb, hml, hown, htc⟩ (c_X12_prop l D k bb (xs 1) 1) (cwV 2 htc gS_X12_prop rfl rfl rfl (by decide +kernel) ⟨Nat.le_of_ble_eq_true rfl, Nat.le_of_ble_eq_true rfl⟩) hP hK [48, 49] rfl 48 rfl rfl rfl rfl hl.1 rfl (Nat.le_of_ble_eq_true rfl) dL_law_848 ⟨Nat.le_of_ble_eq_true rfl, Nat.le_of_ble_eq_true rfl⟩ (fun r11 hr11 => ?_)
    obtain rfl := hr11
    refine lv_icmp_eq (tgt := 1770) hx hb dL_law_851 (by decide) (fun _ => ?_) (fun h => absurd (by decide) h)
    exact law_tail C0 (Nat.le_refl 6) hS (lv_sub hl [0, 1, 2, 3] rfl) (Nat.le_of_ble_eq_true rfl) (Nat.le_of_ble_eq_true rfl)
set_option maxHeartbeats 4000000 in
set_option maxRecDepth 100000 in
theorem law_21 {p : Program} {l : Launch} {e : Env} {s : State} {m : MethodId} {below : List Frame} {meth : Method} {c : Code} {b : Nat} {xs : Nat → Int32} {D : va_G} {k : Nat → ClassId} {a bb : Nat → Nat} (C0 : lw_At p s m meth c b 6 xs) (hN : NW s) (hK : va_K D vwCl (TYS k) s) {H : Heap} {locs : List Loc} (hP : va_P D vwCl (ALLW k a bb) H) (hD : va_D (fun q : Nat => s.heap.size ≤ q) (ALLW k a bb)) (hS : va_S (fun q : Nat => s.heap.size ≤ q) s.heap H locs) {ls : Array Slot} (hl : lv_has ls 4 [(0, .ref b), (1, .ref (a 0)), (2, .ref (bb 0)), (3, .int 0)]) : W p l e room_1 s m #[Value.ref b] below meth c H locs 66 21009 (lw_Z below #[Value.ref b] s) (F0 m 856 ls []) := by
  obtain ⟨hx, hb, hr, hml, hown, hts0, hX, hbl, hlocks, hgv⟩ := id C0
  have hA : ∀ q : Nat, s.heap.size ≤ q → (fun q : Nat => s.heap.size ≤ q) q := fun _ h => h
  have hbA : ¬ (fun q : Nat => s.heap.size ≤ q) b := Nat.not_le.mpr hbl
  refine lv_aload_n hx hb dL_law_856 rfl (lv_at hl 1 rfl) ?_
  refine lv_aload_n hx hb dL_law_857 rfl (lv_at hl 0 rfl) ?_
  refine lv_iload_n hx hb dL_law_858 rfl (lv_at hl 3 rfl) ?_
  refine lv_iconst (v := 1) hx hb dL_law_859 (by decide) ?_
  refine lv_iadd hx hb dL_law_860 ?_
  refine lv_topi (fun x1 ex1 => ?_)
  obtain rfl : x1 = 1 := ex1.trans (by decide)
  refine va_sld hx hb hX hbl hbA hS (vp_in_iff.mpr (by decide)) dL_law_861 ?_
  refine W.eq (g2 := F0 m 862 ls [.int (xs 1), .ref (a 0)]) rfl ?_
  refine lv_aload_n hx hb dL_law_862 rfl (lv_at hl 0 rfl) ?_
  refine lv_iload_n hx hb dL_law_863 rfl (lv_at hl 3 rfl) ?_
  refine lv_iconst (v := 2) hx hb dL_law_864 (by decide) ?_
  refine lv_iadd hx hb dL_law_865 ?_
  refine lv_topi (fun x2 ex2 => ?_)
  obtain rfl : x2 = 2 := ex2.trans (by decide)
  refine va_sld hx hb hX hbl hbA hS (vp_in_iff.mpr (by decide)) dL_law_866 ?_
  refine W.eq (g2 := F0 m 867 ls [.int (xs 2), .int (xs 1), .ref (a 0)]) rfl ?_
  have htc := fun w h => hts0 w (hwL_X11_widen w h)
  refine pvi (C := RX11) (As := [.int (xs 1), .int (xs 2)]) (rest := []) (wc := [e0 k a, e26 k a]) ⟨hx, hb, hml, hown, htc⟩ (c_X11_widen l D k a (xs 1) (xs 2)) (cwV 2 htc gS_X11_widen rfl rfl rfl (by decide +kernel) ⟨Nat.le_of_ble_eq_true rfl, Nat.le_of_ble_eq_true rfl⟩) hP hK [0, 26] rfl 0 rfl rfl rfl rfl hl.1 rfl (Nat.le_of_ble_eq_true rfl) dL_law_867 ⟨Nat.le_of_ble_eq_true rfl, Nat.le_of_ble_eq_true rfl⟩ (fun r3 hr3 => ?_)
  obtain rfl := hr3
  refine lv_aload_n hx hb dL_law_870 rfl (lv_at hl 2 rfl) ?_
  refine lv_aload_n hx hb dL_law_871 rfl (lv_at hl 0 rfl) ?_
  refine lv_iload_n hx hb dL_law_872 rfl (lv_at hl 3 rfl) ?_
  refine lv_iconst (v := 1) hx hb dL_law_873 (by decide) ?_
  refine lv_iadd hx hb dL_law_874 ?_
  refine lv_topi (fun x4 ex4 => ?_)
  obtain rfl : x4 = 1 := ex4.trans (by decide)
  refine va_sld hx hb hX hbl hbA hS (vp_in_iff.mpr (by decide)) dL_law_875 ?_
  refine W.eq (g2 := F0 m 876 ls [.int (xs 1), .ref (bb 0), .int (-2)]) rfl ?_
  refine lv_aload_n hx hb dL_law_876 rfl (lv_at hl 0 rfl) ?_
  refine lv_iload_n hx hb dL_law_877 rfl (lv_at hl 3 rfl) ?_
  refine lv_iconst (v := 2) hx hb dL_law_878 (by decide) ?_
  refine lv_iadd hx hb dL_law_879 ?_
  refine lv_topi (fun x5 ex5 => ?_)
  obtain rfl : x5 = 2 := ex5.trans (by decide)
  refine va_sld hx hb hX hbl hbA hS (vp_in_iff.mpr (by decide)) dL_law_880 ?_
  refine W.eq (g2 := F0 m 881 ls [.int (xs 2), .int (xs 1), .ref (bb 0), .int (-2)]) rfl ?_
  have htc := fun w h => hts0 w (hwL_X12_widen w h)
  refine pvi (C := RX12) (As := [.int (xs 1), .int (xs 2)]) (rest := [.int (-2)]) (wc := [m0 k bb, m1 k bb]) ⟨hx, hb, hml, hown, htc⟩ (c_X12_widen l D k bb (xs 1) (xs 2)) (cwV 2 htc gS_X12_widen rfl rfl rfl (by decide +kernel) ⟨Nat.le_of_ble_eq_true rfl, Nat.le_of_ble_eq_true rfl⟩) hP hK [48, 49] rfl 48 rfl rfl rfl rfl hl.1 rfl (Nat.le_of_ble_eq_true rfl) dL_law_881 ⟨Nat.le_of_ble_eq_true rfl, Nat.le_of_ble_eq_true rfl⟩ (fun r6 hr6 => ?_)
  obtain rfl := hr6
  refine lv_icmp_eq (tgt := 1770) hx hb dL_law_884 (by decide) (fun _ => ?_) (fun h => absurd (by decide) h)
  exact law_tail C0 (Nat.le_refl 6) hS (lv_sub hl [0, 1, 2, 3] rfl) (Nat.le_of_ble_eq_true rfl) (Nat.le_of_ble_eq_true rfl)
set_option maxHeartbeats 4000000 in
set_option maxRecDepth 100000 in
theorem law_22 {p : Program} {l : Launch} {e : Env} {s : State} {m : MethodId} {below : List Frame} {meth : Method} {c : Code} {b : Nat} {xs : Nat → Int32} {D : va_G} {k : Nat → ClassId} {a bb : Nat → Nat} (C0 : lw_At p s m meth c b 6 xs) (hN : NW s) (hK : va_K D vwCl (TYS k) s) {H : Heap} {locs : List Loc} (hP : va_P D vwCl (ALLW k a bb) H) (hD : va_D (fun q : Nat => s.heap.size ≤ q) (ALLW k a bb)) (hS : va_S (fun q : Nat => s.heap.size ≤ q) s.heap H locs) {ls : Array Slot} (hl : lv_has ls 4 [(0, .ref b), (1, .ref (a 0)), (2, .ref (bb 0)), (3, .int 0)]) : W p l e room_1 s m #[Value.ref b] below meth c H locs 66 21009 (lw_Z below #[Value.ref b] s) (F0 m 889 ls []) := by
  obtain ⟨hx, hb, hr, hml, hown, hts0, hX, hbl, hlocks, hgv⟩ := id C0
  have hA : ∀ q : Nat, s.heap.size ≤ q → (fun q : Nat => s.heap.size ≤ q) q := fun _ h => h
  have hbA : ¬ (fun q : Nat => s.heap.size ≤ q) b := Nat.not_le.mpr hbl
  refine lv_aload_n hx hb dL_law_889 rfl (lv_at hl 1 rfl) ?_
  refine lv_aload_n hx hb dL_law_890 rfl (lv_at hl 0 rfl) ?_
  refine lv_iload_n hx hb dL_law_891 rfl (lv_at hl 3 rfl) ?_
  refine lv_iconst (v := 1) hx hb dL_law_892 (by decide) ?_
  refine lv_iadd hx hb dL_law_893 ?_
  refine lv_topi (fun x1 ex1 => ?_)
  obtain rfl : x1 = 1 := ex1.trans (by decide)
  refine va_sld hx hb hX hbl hbA hS (vp_in_iff.mpr (by decide)) dL_law_894 ?_
  refine W.eq (g2 := F0 m 895 ls [.int (xs 1), .ref (a 0)]) rfl ?_
  refine lv_aload_n hx hb dL_law_895 rfl (lv_at hl 0 rfl) ?_
  refine lv_iload_n hx hb dL_law_896 rfl (lv_at hl 3 rfl) ?_
  refine lv_iconst (v := 2) hx hb dL_law_897 (by decide) ?_
  refine lv_iadd hx hb dL_law_898 ?_
  refine lv_topi (fun x2 ex2 => ?_)
  obtain rfl : x2 = 2 := ex2.trans (by decide)
  refine va_sld hx hb hX hbl hbA hS (vp_in_iff.mpr (by decide)) dL_law_899 ?_
  refine W.eq (g2 := F0 m 900 ls [.int (xs 2), .int (xs 1), .ref (a 0)]) rfl ?_
  have htc := fun w h => hts0 w (hwL_X11_lever w h)
  refine pvi (C := RX11) (As := [.int (xs 1), .int (xs 2)]) (rest := []) (wc := [e0 k a, e26 k a, e4 k a]) ⟨hx, hb, hml, hown, htc⟩ (c_X11_lever l D k a (xs 1) (xs 2)) (cwV 2 htc gS_X11_lever rfl rfl rfl (by decide +kernel) ⟨Nat.le_of_ble_eq_true rfl, Nat.le_of_ble_eq_true rfl⟩) hP hK [0, 26, 4] rfl 0 rfl rfl rfl rfl hl.1 rfl (Nat.le_of_ble_eq_true rfl) dL_law_900 ⟨Nat.le_of_ble_eq_true rfl, Nat.le_of_ble_eq_true rfl⟩ (fun r3 hr3 => ?_)
  obtain rfl := hr3
  refine lv_aload_n hx hb dL_law_903 rfl (lv_at hl 2 rfl) ?_
  refine lv_aload_n hx hb dL_law_904 rfl (lv_at hl 0 rfl) ?_
  refine lv_iload_n hx hb dL_law_905 rfl (lv_at hl 3 rfl) ?_
  refine lv_iconst (v := 1) hx hb dL_law_906 (by decide) ?_
  refine lv_iadd hx hb dL_law_907 ?_
  refine lv_topi (fun x4 ex4 => ?_)
  obtain rfl : x4 = 1 := ex4.trans (by decide)
  refine va_sld hx hb hX hbl hbA hS (vp_in_iff.mpr (by decide)) dL_law_908 ?_
  refine W.eq (g2 := F0 m 909 ls [.int (xs 1), .ref (bb 0), .int (-2)]) rfl ?_
  refine lv_aload_n hx hb dL_law_909 rfl (lv_at hl 0 rfl) ?_
  refine lv_iload_n hx hb dL_law_910 rfl (lv_at hl 3 rfl) ?_
  refine lv_iconst (v := 2) hx hb dL_law_911 (by decide) ?_
  refine lv_iadd hx hb dL_law_912 ?_
  refine lv_topi (fun x5 ex5 => ?_)
  obtain rfl : x5 = 2 := ex5.trans (by decide)
  refine va_sld hx hb hX hbl hbA hS (vp_in_iff.mpr (by decide)) dL_law_913 ?_
  refine W.eq (g2 := F0 m 914 ls [.int (xs 2), .int (xs 1), .ref (bb 0), .int (-2)]) rfl ?_
  have htc := fun w h => hts0 w (hwL_X12_lever w h)
  refine pvi (C := RX12) (As := [.int (xs 1), .int (xs 2)]) (rest := [.int (-2)]) (wc := [m0 k bb, m1 k bb]) ⟨hx, hb, hml, hown, htc⟩ (c_X12_lever l D k bb (xs 1) (xs 2)) (cwV 2 htc gS_X12_lever rfl rfl rfl (by decide +kernel) ⟨Nat.le_of_ble_eq_true rfl, Nat.le_of_ble_eq_true rfl⟩) hP hK [48, 49] rfl 48 rfl rfl rfl rfl hl.1 rfl (Nat.le_of_ble_eq_true rfl) dL_law_914 ⟨Nat.le_of_ble_eq_true rfl, Nat.le_of_ble_eq_true rfl⟩ (fun r6 hr6 => ?_)
  obtain rfl := hr6
  refine lv_icmp_eq (tgt := 1770) hx hb dL_law_917 (by decide) (fun _ => ?_) (fun h => absurd (by decide) h)
  exact law_tail C0 (Nat.le_refl 6) hS (lv_sub hl [0, 1, 2, 3] rfl) (Nat.le_of_ble_eq_true rfl) (Nat.le_of_ble_eq_true rfl)
set_option maxHeartbeats 4000000 in
set_option maxRecDepth 100000 in
theorem law_23 {p : Program} {l : Launch} {e : Env} {s : State} {m : MethodId} {below : List Frame} {meth : Method} {c : Code} {b : Nat} {xs : Nat → Int32} {D : va_G} {k : Nat → ClassId} {a bb : Nat → Nat} (C0 : lw_At p s m meth c b 6 xs) (hN : NW s) (hK : va_K D vwCl (TYS k) s) {H : Heap} {locs : List Loc} (hP : va_P D vwCl (ALLW k a bb) H) (hD : va_D (fun q : Nat => s.heap.size ≤ q) (ALLW k a bb)) (hS : va_S (fun q : Nat => s.heap.size ≤ q) s.heap H locs) {ls : Array Slot} (hl : lv_has ls 4 [(0, .ref b), (1, .ref (a 0)), (2, .ref (bb 0)), (3, .int 0)]) : W p l e room_1 s m #[Value.ref b] below meth c H locs 66 21009 (lw_Z below #[Value.ref b] s) (F0 m 922 ls []) := by
  obtain ⟨hx, hb, hr, hml, hown, hts0, hX, hbl, hlocks, hgv⟩ := id C0
  have hA : ∀ q : Nat, s.heap.size ≤ q → (fun q : Nat => s.heap.size ≤ q) q := fun _ h => h
  have hbA : ¬ (fun q : Nat => s.heap.size ≤ q) b := Nat.not_le.mpr hbl
  refine lv_aload_n hx hb dL_law_922 rfl (lv_at hl 1 rfl) ?_
  refine lv_aload_n hx hb dL_law_923 rfl (lv_at hl 0 rfl) ?_
  refine lv_iload_n hx hb dL_law_924 rfl (lv_at hl 3 rfl) ?_
  refine lv_iconst (v := 1) hx hb dL_law_925 (by decide) ?_
  refine lv_iadd hx hb dL_law_926 ?_
  refine lv_topi (fun x1 ex1 => ?_)
  obtain rfl : x1 = 1 := ex1.trans (by decide)
  refine va_sld hx hb hX hbl hbA hS (vp_in_iff.mpr (by decide)) dL_law_927 ?_
  refine W.eq (g2 := F0 m 928 ls [.int (xs 1), .ref (a 0)]) rfl ?_
  have htc := fun w h => hts0 w (hwL_X11_trial w h)
  refine pvi (C := RX11) (As := [.int (xs 1)]) (rest := []) (wc := [e0 k a, e26 k a]) ⟨hx, hb, hml, hown, htc⟩ (c_X11_trial l D k a (xs 1)) (cwV 1 htc gS_X11_trial rfl rfl rfl (by decide +kernel) ⟨Nat.le_of_ble_eq_true rfl, Nat.le_of_ble_eq_true rfl⟩) hP hK [0, 26] rfl 0 rfl rfl rfl rfl hl.1 rfl (Nat.le_of_ble_eq_true rfl) dL_law_928 ⟨Nat.le_of_ble_eq_true rfl, Nat.le_of_ble_eq_true rfl⟩ (fun r2 hr2 => ?_)
  rcases hr2 with ⟨g3, rfl⟩ | ⟨g3, rfl⟩
  · refine lv_aload_n hx hb dL_law_931 rfl (lv_at hl 2 rfl) ?_
    refine lv_aload_n hx hb dL_law_932 rfl (lv_at hl 0 rfl) ?_
    refine lv_iload_n hx hb dL_law_933 rfl (lv_at hl 3 rfl) ?_
    refine lv_iconst (v := 1) hx hb dL_law_934 (by decide) ?_
    refine lv_iadd hx hb dL_law_935 ?_
    refine lv_topi (fun x4 ex4 => ?_)
    obtain rfl : x4 = 1 := ex4.trans (by decide)
    refine va_sld hx hb hX hbl hbA hS (vp_in_iff.mpr (by decide)) dL_law_936 ?_
    refine W.eq (g2 := F0 m 937 ls [.int (xs 1), .ref (bb 0), .int 0]) rfl ?_
    have htc := fun w h => hts0 w (hwL_X12_trial w h)
    refine pvi (C := RX12) (As := [.int (xs 1)]) (rest := [.int 0]) (wc := [m0 k bb, m1 k bb]) ⟨hx, hb, hml, hown, htc⟩ (c_X12_trial l D k bb (xs 1)) (cwV 1 htc gS_X12_trial rfl rfl rfl (by decide +kernel) ⟨Nat.le_of_ble_eq_true rfl, Nat.le_of_ble_eq_true rfl⟩) hP hK [48, 49] rfl 48 rfl rfl rfl rfl hl.1 rfl (Nat.le_of_ble_eq_true rfl) dL_law_937 ⟨Nat.le_of_ble_eq_true rfl, Nat.le_of_ble_eq_true rfl⟩ (fun r5 hr5 => ?_)
    rcases hr5 with ⟨g6, rfl⟩ | ⟨g6, rfl⟩
    · refine lv_icmp_eq (tgt := 1770) hx hb dL_law_940 (by decide) (fun _ => ?_) (fun h => absurd (by decide) h)
      exact law_tail C0 (Nat.le_refl 6) hS (lv_sub hl [0, 1, 2, 3] rfl) (Nat.le_of_ble_eq_true rfl) (Nat.le_of_ble_eq_true rfl)
    · exact False.elim (by (try simp only [i_lt, i_le, i_eq, Int32.toInt_toInt64, Int32.reduceToInt, Int64.reduceToInt] at g3 g6); omega)
  · refine lv_aload_n hx hb dL_law_931 rfl (lv_at hl 2 rfl) ?_
    refine lv_aload_n hx hb dL_law_932 rfl (lv_at hl 0 rfl) ?_
    refine lv_iload_n hx hb dL_law_933 rfl (lv_at hl 3 rfl) ?_
    refine lv_iconst (v := 1) hx hb dL_law_934 (by decide) ?_
    refine lv_iadd hx hb dL_law_935 ?_
    refine lv_topi (fun x7 ex7 => ?_)
    obtain rfl : x7 = 1 := ex7.trans (by decide)
    refine va_sld hx hb hX hbl hbA hS (vp_in_iff.mpr (by decide)) dL_law_936 ?_
    refine W.eq (g2 := F0 m 937 ls [.int (xs 1), .ref (bb 0), .int (-2)]) rfl ?_
    have htc := fun w h => hts0 w (hwL_X12_trial w h)
    refine pvi (C := RX12) (As := [.int (xs 1)]) (rest := [.int (-2)]) (wc := [m0 k bb, m1 k bb]) ⟨hx, hb, hml, hown, htc⟩ (c_X12_trial l D k bb (xs 1)) (cwV 1 htc gS_X12_trial rfl rfl rfl (by decide +kernel) ⟨Nat.le_of_ble_eq_true rfl, Nat.le_of_ble_eq_true rfl⟩) hP hK [48, 49] rfl 48 rfl rfl rfl rfl hl.1 rfl (Nat.le_of_ble_eq_true rfl) dL_law_937 ⟨Nat.le_of_ble_eq_true rfl, Nat.le_of_ble_eq_true rfl⟩ (fun r8 hr8 => ?_)
    rcases hr8 with ⟨g9, rfl⟩ | ⟨g9, rfl⟩
    · exact False.elim (by (try simp only [i_lt, i_le, i_eq, Int32.toInt_toInt64, Int32.reduceToInt, Int64.reduceToInt] at g3 g9); omega)
    · refine lv_icmp_eq (tgt := 1770) hx hb dL_law_940 (by decide) (fun _ => ?_) (fun h => absurd (by decide) h)
      exact law_tail C0 (Nat.le_refl 6) hS (lv_sub hl [0, 1, 2, 3] rfl) (Nat.le_of_ble_eq_true rfl) (Nat.le_of_ble_eq_true rfl)
