set_option maxHeartbeats 4000000 in
set_option maxRecDepth 100000 in
theorem law_0 {p : Program} {l : Launch} {e : Env} {s : State} {m : MethodId} {below : List Frame} {meth : Method} {c : Code} {b L : Nat} {xs : Nat → Int32} {D : va_G} {k : Nat → ClassId} {tt : TT} (C0 : lw_At p s m meth c b L xs) (hL : L ≤ 3072) (hN : NW s) (hK : va_K D vwCl (TYS k) s) (hE : SX tt (fun q : Nat => s.heap.size ≤ q) s s.heap) {x mm : Nat} {v3 : Int32} {CC SS : Nat} (hv : 0 ≤ v3.toInt ∧ v3.toInt + 6 ≤ L) (hC : CC + 389 ≤ 600000) (hSl : SS + 3227 ≤ 7302250) (kk : ∀ (u : PSt) (H : Heap) (locs : List Loc) (ls : Array Slot), WT u → x ∈ u.1 → u.2.1 x = 11 → mm ∈ u.1 → u.2.1 mm = 12 → REL u x mm → va_P D vwCl (PW k u) H → va_D (fun q : Nat => s.heap.size ≤ q) (PW k u) → va_S (fun q : Nat => s.heap.size ≤ q) s.heap H locs → lv_has ls 4 [(0, .ref b), (1, .ref x), (2, .ref mm), (3, .int v3)] → W p l e room_1 s m #[Value.ref b] below meth c H locs (CC + 389) (SS + 3227) (lw_Z below #[Value.ref b] s) (F0 m 1769 ls [])) {u : PSt} {H : Heap} {locs : List Loc} {ls : Array Slot} (hu : WT u) (m_x : x ∈ u.1) (k_x : u.2.1 x = 11) (m_mm : mm ∈ u.1) (k_mm : u.2.1 mm = 12) (hR : REL u x mm) (hP : va_P D vwCl (PW k u) H) (hD : va_D (fun q : Nat => s.heap.size ≤ q) (PW k u)) (hS : va_S (fun q : Nat => s.heap.size ≤ q) s.heap H locs) (hl : lv_has ls 4 [(0, .ref b), (1, .ref x), (2, .ref mm), (3, .int v3)]) : W p l e room_1 s m #[Value.ref b] below meth c H locs (CC) (SS) (lw_Z below #[Value.ref b] s) (F0 m 236 ls []) := by
  obtain ⟨hx, hb, hr, hml, hown, hts0, hX, hbl, hlocks, hgv⟩ := id C0
  have hA : ∀ q : Nat, s.heap.size ≤ q → (fun q : Nat => s.heap.size ≤ q) q := fun _ h => h
  have hbA : ¬ (fun q : Nat => s.heap.size ≤ q) b := Nat.not_le.mpr hbl
  refine lv_aload_n hx hb dL_law_236 rfl (lv_at hl 1 rfl) ?_
  refine lv_aload_n hx hb dL_law_237 rfl (lv_at hl 0 rfl) ?_
  refine lv_iload_n hx hb dL_law_238 rfl (lv_at hl 3 rfl) ?_
  refine lv_iconst (v := 1) hx hb dL_law_239 (by decide) ?_
  refine lv_iadd hx hb dL_law_240 ?_
  refine lv_topi (fun x1 ex1 => ?_)
  have tx1 : x1.toInt = v3.toInt + 1 := by rw [ex1]; exact i_add (b := 1) (by show -2147483648 ≤ v3.toInt + 1; omega) (by show v3.toInt + 1 ≤ 2147483647; omega)
  refine va_sld hx hb hX hbl hbA hS (vp_in_iff.mpr (by omega)) dL_law_241 ?_
  refine lv_topi (fun y2 ey2 => ?_)
  refine lv_aload_n hx hb dL_law_242 rfl (lv_at hl 0 rfl) ?_
  refine lv_iload_n hx hb dL_law_243 rfl (lv_at hl 3 rfl) ?_
  refine lv_iconst (v := 2) hx hb dL_law_244 (by decide) ?_
  refine lv_iadd hx hb dL_law_245 ?_
  refine lv_topi (fun x3 ex3 => ?_)
  have tx3 : x3.toInt = v3.toInt + 2 := by rw [ex3]; exact i_add (b := 2) (by show -2147483648 ≤ v3.toInt + 2; omega) (by show v3.toInt + 2 ≤ 2147483647; omega)
  refine va_sld hx hb hX hbl hbA hS (vp_in_iff.mpr (by omega)) dL_law_246 ?_
  refine lv_topi (fun y4 ey4 => ?_)
  refine lv_aload_n hx hb dL_law_247 rfl (lv_at hl 0 rfl) ?_
  refine lv_iload_n hx hb dL_law_248 rfl (lv_at hl 3 rfl) ?_
  refine lv_iconst (v := 3) hx hb dL_law_249 (by decide) ?_
  refine lv_iadd hx hb dL_law_250 ?_
  refine lv_topi (fun x5 ex5 => ?_)
  have tx5 : x5.toInt = v3.toInt + 3 := by rw [ex5]; exact i_add (b := 3) (by show -2147483648 ≤ v3.toInt + 3; omega) (by show v3.toInt + 3 ≤ 2147483647; omega)
  refine va_sld hx hb hX hbl hbA hS (vp_in_iff.mpr (by omega)) dL_law_251 ?_
  refine lv_topi (fun y6 ey6 => ?_)
  refine lv_aload_n hx hb dL_law_252 rfl (lv_at hl 0 rfl) ?_
  refine lv_iload_n hx hb dL_law_253 rfl (lv_at hl 3 rfl) ?_
  refine lv_iconst (v := 4) hx hb dL_law_254 (by decide) ?_
  refine lv_iadd hx hb dL_law_255 ?_
  refine lv_topi (fun x7 ex7 => ?_)
  have tx7 : x7.toInt = v3.toInt + 4 := by rw [ex7]; exact i_add (b := 4) (by show -2147483648 ≤ v3.toInt + 4; omega) (by show v3.toInt + 4 ≤ 2147483647; omega)
  refine va_sld hx hb hX hbl hbA hS (vp_in_iff.mpr (by omega)) dL_law_256 ?_
  refine lv_topi (fun y8 ey8 => ?_)
  refine lv_aload_n hx hb dL_law_257 rfl (lv_at hl 0 rfl) ?_
  refine lv_iload_n hx hb dL_law_258 rfl (lv_at hl 3 rfl) ?_
  refine lv_iconst (v := 5) hx hb dL_law_259 (by decide) ?_
  refine lv_iadd hx hb dL_law_260 ?_
  refine lv_topi (fun x9 ex9 => ?_)
  have tx9 : x9.toInt = v3.toInt + 5 := by rw [ex9]; exact i_add (b := 5) (by show -2147483648 ≤ v3.toInt + 5; omega) (by show v3.toInt + 5 ≤ 2147483647; omega)
  refine va_sld hx hb hX hbl hbA hS (vp_in_iff.mpr (by omega)) dL_law_261 ?_
  refine lv_topi (fun y10 ey10 => ?_)
  have htc := fun w h => hts0 w (hwL_X11_feed w h)
  refine wiV (C := RX11) (As := [.int y2, .int y4, .int y6, .int y8, .int y10]) (rest := []) ⟨hx, hb, hml, hown, htc⟩ (fun sz => t_X11_feed l D k u hu x m_x k_x y2 y4 y6 y8 y10 sz) (cwV 5 htc gS_X11_feed rfl rfl rfl (by decide +kernel) ⟨Nat.le_of_ble_eq_true rfl, Nat.le_of_ble_eq_true rfl⟩) hP hK hD hN hS hA (precv hK hP m_x (cF11 k_x) rfl) rfl hl.1 rfl (Nat.le_of_ble_eq_true rfl) dL_law_262 ⟨by show CC + _ ≤ 600000; omega, by show SS + _ ≤ 7302250; omega⟩ (fun r11 u12 H locs hq hP hD hS => ?_)
  obtain ⟨hu, hxu12, hr11⟩ := hq
  have hR := REL.px m_x k_x m_mm k_mm hR hxu12
  have k_x : u12.2.1 x = 11 := (hxu12 x m_x).2.1.trans k_x
  have m_x : x ∈ u12.1 := (hxu12 x m_x).1
  have k_mm : u12.2.1 mm = 12 := (hxu12 mm m_mm).2.1.trans k_mm
  have m_mm : mm ∈ u12.1 := (hxu12 mm m_mm).1
  refine lv_pop hx hb dL_law_265 rfl ?_
  refine lv_aload_n hx hb dL_law_266 rfl (lv_at hl 2 rfl) ?_
  refine lv_aload_n hx hb dL_law_267 rfl (lv_at hl 0 rfl) ?_
  refine lv_iload_n hx hb dL_law_268 rfl (lv_at hl 3 rfl) ?_
  refine lv_iconst (v := 1) hx hb dL_law_269 (by decide) ?_
  refine lv_iadd hx hb dL_law_270 ?_
  refine lv_topi (fun x13 ex13 => ?_)
  have tx13 : x13.toInt = v3.toInt + 1 := by rw [ex13]; exact i_add (b := 1) (by show -2147483648 ≤ v3.toInt + 1; omega) (by show v3.toInt + 1 ≤ 2147483647; omega)
  refine va_sld hx hb hX hbl hbA hS (vp_in_iff.mpr (by omega)) dL_law_271 ?_
  refine lv_topi (fun y14 ey14 => ?_)
  have qy14 : y14.toInt = y2.toInt := by rw [ey14, ey2, Int32.toInt_inj.mp (show x13.toInt = x1.toInt by omega)]
  refine lv_aload_n hx hb dL_law_272 rfl (lv_at hl 0 rfl) ?_
  refine lv_iload_n hx hb dL_law_273 rfl (lv_at hl 3 rfl) ?_
  refine lv_iconst (v := 2) hx hb dL_law_274 (by decide) ?_
  refine lv_iadd hx hb dL_law_275 ?_
  refine lv_topi (fun x15 ex15 => ?_)
  have tx15 : x15.toInt = v3.toInt + 2 := by rw [ex15]; exact i_add (b := 2) (by show -2147483648 ≤ v3.toInt + 2; omega) (by show v3.toInt + 2 ≤ 2147483647; omega)
  refine va_sld hx hb hX hbl hbA hS (vp_in_iff.mpr (by omega)) dL_law_276 ?_
  refine lv_topi (fun y16 ey16 => ?_)
  have qy16 : y16.toInt = y4.toInt := by rw [ey16, ey4, Int32.toInt_inj.mp (show x15.toInt = x3.toInt by omega)]
  refine lv_aload_n hx hb dL_law_277 rfl (lv_at hl 0 rfl) ?_
  refine lv_iload_n hx hb dL_law_278 rfl (lv_at hl 3 rfl) ?_
  refine lv_iconst (v := 3) hx hb dL_law_279 (by decide) ?_
  refine lv_iadd hx hb dL_law_280 ?_
  refine lv_topi (fun x17 ex17 => ?_)
  have tx17 : x17.toInt = v3.toInt + 3 := by rw [ex17]; exact i_add (b := 3) (by show -2147483648 ≤ v3.toInt + 3; omega) (by show v3.toInt + 3 ≤ 2147483647; omega)
  refine va_sld hx hb hX hbl hbA hS (vp_in_iff.mpr (by omega)) dL_law_281 ?_
  refine lv_topi (fun y18 ey18 => ?_)
  have qy18 : y18.toInt = y6.toInt := by rw [ey18, ey6, Int32.toInt_inj.mp (show x17.toInt = x5.toInt by omega)]
  refine lv_aload_n hx hb dL_law_282 rfl (lv_at hl 0 rfl) ?_
  refine lv_iload_n hx hb dL_law_283 rfl (lv_at hl 3 rfl) ?_
  refine lv_iconst (v := 4) hx hb dL_law_284 (by decide) ?_
  refine lv_iadd hx hb dL_law_285 ?_
  refine lv_topi (fun x19 ex19 => ?_)
  have tx19 : x19.toInt = v3.toInt + 4 := by rw [ex19]; exact i_add (b := 4) (by show -2147483648 ≤ v3.toInt + 4; omega) (by show v3.toInt + 4 ≤ 2147483647; omega)
  refine va_sld hx hb hX hbl hbA hS (vp_in_iff.mpr (by omega)) dL_law_286 ?_
  refine lv_topi (fun y20 ey20 => ?_)
  have qy20 : y20.toInt = y8.toInt := by rw [ey20, ey8, Int32.toInt_inj.mp (show x19.toInt = x7.toInt by omega)]
  refine lv_aload_n hx hb dL_law_287 rfl (lv_at hl 0 rfl) ?_
  refine lv_iload_n hx hb dL_law_288 rfl (lv_at hl 3 rfl) ?_
  refine lv_iconst (v := 5) hx hb dL_law_289 (by decide) ?_
  refine lv_iadd hx hb dL_law_290 ?_
  refine lv_topi (fun x21 ex21 => ?_)
  have tx21 : x21.toInt = v3.toInt + 5 := by rw [ex21]; exact i_add (b := 5) (by show -2147483648 ≤ v3.toInt + 5; omega) (by show v3.toInt + 5 ≤ 2147483647; omega)
  refine va_sld hx hb hX hbl hbA hS (vp_in_iff.mpr (by omega)) dL_law_291 ?_
  refine lv_topi (fun y22 ey22 => ?_)
  have qy22 : y22.toInt = y10.toInt := by rw [ey22, ey10, Int32.toInt_inj.mp (show x21.toInt = x9.toInt by omega)]
  have htc := fun w h => hts0 w (hwL_X12_feed w h)
  refine wiV (C := RX12) (As := [.int y14, .int y16, .int y18, .int y20, .int y22]) (rest := []) ⟨hx, hb, hml, hown, htc⟩ (fun sz => t_X12_feed l D k u12 hu mm m_mm k_mm y14 y16 y18 y20 y22 sz) (cwV 5 htc gS_X12_feed rfl rfl rfl (by decide +kernel) ⟨Nat.le_of_ble_eq_true rfl, Nat.le_of_ble_eq_true rfl⟩) hP hK hD hN hS hA (precv hK hP m_mm (cF12 k_mm) rfl) rfl hl.1 rfl (Nat.le_of_ble_eq_true rfl) dL_law_292 ⟨by show CC + _ ≤ 600000; omega, by show SS + _ ≤ 7302250; omega⟩ (fun r23 u24 H locs hq hP hD hS => ?_)
  obtain ⟨hu, hxu24, hr23⟩ := hq
  have hR := REL.px m_x k_x m_mm k_mm hR hxu24
  have k_x : u24.2.1 x = 11 := (hxu24 x m_x).2.1.trans k_x
  have m_x : x ∈ u24.1 := (hxu24 x m_x).1
  have k_mm : u24.2.1 mm = 12 := (hxu24 mm m_mm).2.1.trans k_mm
  have m_mm : mm ∈ u24.1 := (hxu24 mm m_mm).1
  refine lv_pop hx hb dL_law_295 rfl ?_
  refine lv_goto (tgt := 1769) hx hb dL_law_296 (by decide) ?_
  refine W.widen (k := CC + 389) (n := SS + 3227) (by omega) (by omega) ?_
  exact kk u24 _ _ ls hu m_x k_x m_mm k_mm hR hP hD hS hl
set_option maxHeartbeats 4000000 in
set_option maxRecDepth 100000 in
theorem law_1 {p : Program} {l : Launch} {e : Env} {s : State} {m : MethodId} {below : List Frame} {meth : Method} {c : Code} {b L : Nat} {xs : Nat → Int32} {D : va_G} {k : Nat → ClassId} {tt : TT} (C0 : lw_At p s m meth c b L xs) (hL : L ≤ 3072) (hN : NW s) (hK : va_K D vwCl (TYS k) s) (hE : SX tt (fun q : Nat => s.heap.size ≤ q) s s.heap) {x mm : Nat} {v3 : Int32} {CC SS : Nat} (hv : 0 ≤ v3.toInt ∧ v3.toInt + 6 ≤ L) (hC : CC + 389 ≤ 600000) (hSl : SS + 3227 ≤ 7302250) (kk : ∀ (u : PSt) (H : Heap) (locs : List Loc) (ls : Array Slot), WT u → x ∈ u.1 → u.2.1 x = 11 → mm ∈ u.1 → u.2.1 mm = 12 → REL u x mm → va_P D vwCl (PW k u) H → va_D (fun q : Nat => s.heap.size ≤ q) (PW k u) → va_S (fun q : Nat => s.heap.size ≤ q) s.heap H locs → lv_has ls 4 [(0, .ref b), (1, .ref x), (2, .ref mm), (3, .int v3)] → W p l e room_1 s m #[Value.ref b] below meth c H locs (CC + 389) (SS + 3227) (lw_Z below #[Value.ref b] s) (F0 m 1769 ls [])) {u : PSt} {H : Heap} {locs : List Loc} {ls : Array Slot} (hu : WT u) (m_x : x ∈ u.1) (k_x : u.2.1 x = 11) (m_mm : mm ∈ u.1) (k_mm : u.2.1 mm = 12) (hR : REL u x mm) (hP : va_P D vwCl (PW k u) H) (hD : va_D (fun q : Nat => s.heap.size ≤ q) (PW k u)) (hS : va_S (fun q : Nat => s.heap.size ≤ q) s.heap H locs) (hl : lv_has ls 4 [(0, .ref b), (1, .ref x), (2, .ref mm), (3, .int v3)]) : W p l e room_1 s m #[Value.ref b] below meth c H locs (CC) (SS) (lw_Z below #[Value.ref b] s) (F0 m 299 ls []) := by
  obtain ⟨hx, hb, hr, hml, hown, hts0, hX, hbl, hlocks, hgv⟩ := id C0
  have hA : ∀ q : Nat, s.heap.size ≤ q → (fun q : Nat => s.heap.size ≤ q) q := fun _ h => h
  have hbA : ¬ (fun q : Nat => s.heap.size ≤ q) b := Nat.not_le.mpr hbl
  refine lv_aload_n hx hb dL_law_299 rfl (lv_at hl 1 rfl) ?_
  refine lv_aload_n hx hb dL_law_300 rfl (lv_at hl 0 rfl) ?_
  refine lv_iload_n hx hb dL_law_301 rfl (lv_at hl 3 rfl) ?_
  refine lv_iconst (v := 1) hx hb dL_law_302 (by decide) ?_
  refine lv_iadd hx hb dL_law_303 ?_
  refine lv_topi (fun x1 ex1 => ?_)
  have tx1 : x1.toInt = v3.toInt + 1 := by rw [ex1]; exact i_add (b := 1) (by show -2147483648 ≤ v3.toInt + 1; omega) (by show v3.toInt + 1 ≤ 2147483647; omega)
  refine va_sld hx hb hX hbl hbA hS (vp_in_iff.mpr (by omega)) dL_law_304 ?_
  refine lv_topi (fun y2 ey2 => ?_)
  have htc := fun w h => hts0 w (hwL_X11_end w h)
  refine wiV (C := RX11) (As := [.int y2]) (rest := []) ⟨hx, hb, hml, hown, htc⟩ (fun sz => t_X11_end l D k u hu x m_x k_x y2 sz) (cwV 1 htc gS_X11_end rfl rfl rfl (by decide +kernel) ⟨Nat.le_of_ble_eq_true rfl, Nat.le_of_ble_eq_true rfl⟩) hP hK hD hN hS hA (precv hK hP m_x (cF11 k_x) rfl) rfl hl.1 rfl (Nat.le_of_ble_eq_true rfl) dL_law_305 ⟨by show CC + _ ≤ 600000; omega, by show SS + _ ≤ 7302250; omega⟩ (fun r3 u4 H locs hq hP hD hS => ?_)
  obtain ⟨hu, hxu4, hr3⟩ := hq
  have hR := REL.px m_x k_x m_mm k_mm hR hxu4
  have k_x : u4.2.1 x = 11 := (hxu4 x m_x).2.1.trans k_x
  have m_x : x ∈ u4.1 := (hxu4 x m_x).1
  have k_mm : u4.2.1 mm = 12 := (hxu4 mm m_mm).2.1.trans k_mm
  have m_mm : mm ∈ u4.1 := (hxu4 mm m_mm).1
  refine lv_pop hx hb dL_law_308 rfl ?_
  refine lv_aload_n hx hb dL_law_309 rfl (lv_at hl 2 rfl) ?_
  refine lv_aload_n hx hb dL_law_310 rfl (lv_at hl 0 rfl) ?_
  refine lv_iload_n hx hb dL_law_311 rfl (lv_at hl 3 rfl) ?_
  refine lv_iconst (v := 1) hx hb dL_law_312 (by decide) ?_
  refine lv_iadd hx hb dL_law_313 ?_
  refine lv_topi (fun x5 ex5 => ?_)
  have tx5 : x5.toInt = v3.toInt + 1 := by rw [ex5]; exact i_add (b := 1) (by show -2147483648 ≤ v3.toInt + 1; omega) (by show v3.toInt + 1 ≤ 2147483647; omega)
  refine va_sld hx hb hX hbl hbA hS (vp_in_iff.mpr (by omega)) dL_law_314 ?_
  refine lv_topi (fun y6 ey6 => ?_)
  have qy6 : y6.toInt = y2.toInt := by rw [ey6, ey2, Int32.toInt_inj.mp (show x5.toInt = x1.toInt by omega)]
  have htc := fun w h => hts0 w (hwL_X12_end w h)
  refine wiV (C := RX12) (As := [.int y6]) (rest := []) ⟨hx, hb, hml, hown, htc⟩ (fun sz => t_X12_end l D k u4 hu mm m_mm k_mm y6 sz) (cwV 1 htc gS_X12_end rfl rfl rfl (by decide +kernel) ⟨Nat.le_of_ble_eq_true rfl, Nat.le_of_ble_eq_true rfl⟩) hP hK hD hN hS hA (precv hK hP m_mm (cF12 k_mm) rfl) rfl hl.1 rfl (Nat.le_of_ble_eq_true rfl) dL_law_315 ⟨by show CC + _ ≤ 600000; omega, by show SS + _ ≤ 7302250; omega⟩ (fun r7 u8 H locs hq hP hD hS => ?_)
  obtain ⟨hu, hxu8, hr7⟩ := hq
  have hR := REL.px m_x k_x m_mm k_mm hR hxu8
  have k_x : u8.2.1 x = 11 := (hxu8 x m_x).2.1.trans k_x
  have m_x : x ∈ u8.1 := (hxu8 x m_x).1
  have k_mm : u8.2.1 mm = 12 := (hxu8 mm m_mm).2.1.trans k_mm
  have m_mm : mm ∈ u8.1 := (hxu8 mm m_mm).1
  refine lv_pop hx hb dL_law_318 rfl ?_
  refine lv_goto (tgt := 1769) hx hb dL_law_319 (by decide) ?_
  refine W.widen (k := CC + 389) (n := SS + 3227) (by omega) (by omega) ?_
  exact kk u8 _ _ ls hu m_x k_x m_mm k_mm hR hP hD hS hl
set_option maxHeartbeats 4000000 in
set_option maxRecDepth 100000 in
theorem law_2 {p : Program} {l : Launch} {e : Env} {s : State} {m : MethodId} {below : List Frame} {meth : Method} {c : Code} {b L : Nat} {xs : Nat → Int32} {D : va_G} {k : Nat → ClassId} {tt : TT} (C0 : lw_At p s m meth c b L xs) (hL : L ≤ 3072) (hN : NW s) (hK : va_K D vwCl (TYS k) s) (hE : SX tt (fun q : Nat => s.heap.size ≤ q) s s.heap) {x mm : Nat} {v3 : Int32} {CC SS : Nat} (hv : 0 ≤ v3.toInt ∧ v3.toInt + 6 ≤ L) (hC : CC + 389 ≤ 600000) (hSl : SS + 3227 ≤ 7302250) (kk : ∀ (u : PSt) (H : Heap) (locs : List Loc) (ls : Array Slot), WT u → x ∈ u.1 → u.2.1 x = 11 → mm ∈ u.1 → u.2.1 mm = 12 → REL u x mm → va_P D vwCl (PW k u) H → va_D (fun q : Nat => s.heap.size ≤ q) (PW k u) → va_S (fun q : Nat => s.heap.size ≤ q) s.heap H locs → lv_has ls 4 [(0, .ref b), (1, .ref x), (2, .ref mm), (3, .int v3)] → W p l e room_1 s m #[Value.ref b] below meth c H locs (CC + 389) (SS + 3227) (lw_Z below #[Value.ref b] s) (F0 m 1769 ls [])) {u : PSt} {H : Heap} {locs : List Loc} {ls : Array Slot} (hu : WT u) (m_x : x ∈ u.1) (k_x : u.2.1 x = 11) (m_mm : mm ∈ u.1) (k_mm : u.2.1 mm = 12) (hR : REL u x mm) (hP : va_P D vwCl (PW k u) H) (hD : va_D (fun q : Nat => s.heap.size ≤ q) (PW k u)) (hS : va_S (fun q : Nat => s.heap.size ≤ q) s.heap H locs) (hl : lv_has ls 4 [(0, .ref b), (1, .ref x), (2, .ref mm), (3, .int v3)]) : W p l e room_1 s m #[Value.ref b] below meth c H locs (CC) (SS) (lw_Z below #[Value.ref b] s) (F0 m 322 ls []) := by
  obtain ⟨hx, hb, hr, hml, hown, hts0, hX, hbl, hlocks, hgv⟩ := id C0
  have hA : ∀ q : Nat, s.heap.size ≤ q → (fun q : Nat => s.heap.size ≤ q) q := fun _ h => h
  have hbA : ¬ (fun q : Nat => s.heap.size ≤ q) b := Nat.not_le.mpr hbl
  refine lv_aload_n hx hb dL_law_322 rfl (lv_at hl 1 rfl) ?_
  have htc := fun w h => hts0 w (hwL_X11_works w h)
  refine xiV (C := RX11) (As := []) (rest := []) ⟨hx, hb, hml, hown, htc⟩ (fun sz => t_X11_works l D k tt u hu x m_x k_x  sz) (cwV 0 htc gS_X11_works rfl rfl rfl (by decide +kernel) ⟨Nat.le_of_ble_eq_true rfl, Nat.le_of_ble_eq_true rfl⟩) hP hK hD hN hE hS hA (precv hK hP m_x (cF11 k_x) rfl) rfl hl.1 rfl (Nat.le_of_ble_eq_true rfl) dL_law_323 ⟨by show CC + _ ≤ 600000; omega, by show SS + _ ≤ 7302250; omega⟩ (fun r1 u2 H locs hq hP hD hS => ?_)
  obtain ⟨hu, hxu2, hr1⟩ := hq
  have hR := REL.px m_x k_x m_mm k_mm hR hxu2
  have k_x : u2.2.1 x = 11 := (hxu2 x m_x).2.1.trans k_x
  have m_x : x ∈ u2.1 := (hxu2 x m_x).1
  have k_mm : u2.2.1 mm = 12 := (hxu2 mm m_mm).2.1.trans k_mm
  have m_mm : mm ∈ u2.1 := (hxu2 mm m_mm).1
  refine lv_pop hx hb dL_law_326 rfl ?_
  refine lv_aload_n hx hb dL_law_327 rfl (lv_at hl 2 rfl) ?_
  have htc := fun w h => hts0 w (hwL_X12_works w h)
  refine xiV (C := RX12) (As := []) (rest := []) ⟨hx, hb, hml, hown, htc⟩ (fun sz => t_X12_works l D k tt u2 hu mm m_mm k_mm  sz) (cwV 0 htc gS_X12_works rfl rfl rfl (by decide +kernel) ⟨Nat.le_of_ble_eq_true rfl, Nat.le_of_ble_eq_true rfl⟩) hP hK hD hN hE hS hA (precv hK hP m_mm (cF12 k_mm) rfl) rfl hl.1 rfl (Nat.le_of_ble_eq_true rfl) dL_law_328 ⟨by show CC + _ ≤ 600000; omega, by show SS + _ ≤ 7302250; omega⟩ (fun r3 u4 H locs hq hP hD hS => ?_)
  obtain ⟨hu, hxu4, hr3⟩ := hq
  have hR := REL.px m_x k_x m_mm k_mm hR hxu4
  have k_x : u4.2.1 x = 11 := (hxu4 x m_x).2.1.trans k_x
  have m_x : x ∈ u4.1 := (hxu4 x m_x).1
  have k_mm : u4.2.1 mm = 12 := (hxu4 mm m_mm).2.1.trans k_mm
  have m_mm : mm ∈ u4.1 := (hxu4 mm m_mm).1
  refine lv_pop hx hb dL_law_331 rfl ?_
  refine lv_goto (tgt := 1769) hx hb dL_law_332 (by decide) ?_
  refine W.widen (k := CC + 389) (n := SS + 3227) (by omega) (by omega) ?_
  exact kk u4 _ _ ls hu m_x k_x m_mm k_mm hR hP hD hS hl
set_option maxHeartbeats 4000000 in
set_option maxRecDepth 100000 in
theorem law_3 {p : Program} {l : Launch} {e : Env} {s : State} {m : MethodId} {below : List Frame} {meth : Method} {c : Code} {b L : Nat} {xs : Nat → Int32} {D : va_G} {k : Nat → ClassId} {tt : TT} (C0 : lw_At p s m meth c b L xs) (hL : L ≤ 3072) (hN : NW s) (hK : va_K D vwCl (TYS k) s) (hE : SX tt (fun q : Nat => s.heap.size ≤ q) s s.heap) {x mm : Nat} {v3 : Int32} {CC SS : Nat} (hv : 0 ≤ v3.toInt ∧ v3.toInt + 6 ≤ L) (hC : CC + 389 ≤ 600000) (hSl : SS + 3227 ≤ 7302250) (kk : ∀ (u : PSt) (H : Heap) (locs : List Loc) (ls : Array Slot), WT u → x ∈ u.1 → u.2.1 x = 11 → mm ∈ u.1 → u.2.1 mm = 12 → REL u x mm → va_P D vwCl (PW k u) H → va_D (fun q : Nat => s.heap.size ≤ q) (PW k u) → va_S (fun q : Nat => s.heap.size ≤ q) s.heap H locs → lv_has ls 4 [(0, .ref b), (1, .ref x), (2, .ref mm), (3, .int v3)] → W p l e room_1 s m #[Value.ref b] below meth c H locs (CC + 389) (SS + 3227) (lw_Z below #[Value.ref b] s) (F0 m 1769 ls [])) {u : PSt} {H : Heap} {locs : List Loc} {ls : Array Slot} (hu : WT u) (m_x : x ∈ u.1) (k_x : u.2.1 x = 11) (m_mm : mm ∈ u.1) (k_mm : u.2.1 mm = 12) (hR : REL u x mm) (hP : va_P D vwCl (PW k u) H) (hD : va_D (fun q : Nat => s.heap.size ≤ q) (PW k u)) (hS : va_S (fun q : Nat => s.heap.size ≤ q) s.heap H locs) (hl : lv_has ls 4 [(0, .ref b), (1, .ref x), (2, .ref mm), (3, .int v3)]) : W p l e room_1 s m #[Value.ref b] below meth c H locs (CC) (SS) (lw_Z below #[Value.ref b] s) (F0 m 335 ls []) := by
  obtain ⟨hx, hb, hr, hml, hown, hts0, hX, hbl, hlocks, hgv⟩ := id C0
  have hA : ∀ q : Nat, s.heap.size ≤ q → (fun q : Nat => s.heap.size ≤ q) q := fun _ h => h
  have hbA : ¬ (fun q : Nat => s.heap.size ≤ q) b := Nat.not_le.mpr hbl
  refine lv_aload_n hx hb dL_law_335 rfl (lv_at hl 1 rfl) ?_
  refine lv_aload_n hx hb dL_law_336 rfl (lv_at hl 0 rfl) ?_
  refine lv_iload_n hx hb dL_law_337 rfl (lv_at hl 3 rfl) ?_
  refine lv_iconst (v := 1) hx hb dL_law_338 (by decide) ?_
  refine lv_iadd hx hb dL_law_339 ?_
  refine lv_topi (fun x1 ex1 => ?_)
  have tx1 : x1.toInt = v3.toInt + 1 := by rw [ex1]; exact i_add (b := 1) (by show -2147483648 ≤ v3.toInt + 1; omega) (by show v3.toInt + 1 ≤ 2147483647; omega)
  refine va_sld hx hb hX hbl hbA hS (vp_in_iff.mpr (by omega)) dL_law_340 ?_
  refine lv_topi (fun y2 ey2 => ?_)
  have htc := fun w h => hts0 w (hwL_X11_fault w h)
  refine rvi (C := RX11) (As := [.int y2]) (rest := []) ⟨hx, hb, hml, hown, htc⟩ (t_X11_fault l D k u hu x m_x k_x y2) (cwV 1 htc gS_X11_fault rfl rfl rfl (by decide +kernel) ⟨Nat.le_of_ble_eq_true rfl, Nat.le_of_ble_eq_true rfl⟩) hP hK (precv hK hP m_x (cF11 k_x) rfl) rfl hl.1 rfl (Nat.le_of_ble_eq_true rfl) dL_law_341 ⟨by show CC ≤ 600000; omega, by show SS ≤ 7302250; omega⟩ (fun r3 hr3 => ?_)
  refine lv_pop hx hb dL_law_344 rfl ?_
  refine lv_aload_n hx hb dL_law_345 rfl (lv_at hl 2 rfl) ?_
  refine lv_aload_n hx hb dL_law_346 rfl (lv_at hl 0 rfl) ?_
  refine lv_iload_n hx hb dL_law_347 rfl (lv_at hl 3 rfl) ?_
  refine lv_iconst (v := 1) hx hb dL_law_348 (by decide) ?_
  refine lv_iadd hx hb dL_law_349 ?_
  refine lv_topi (fun x4 ex4 => ?_)
  have tx4 : x4.toInt = v3.toInt + 1 := by rw [ex4]; exact i_add (b := 1) (by show -2147483648 ≤ v3.toInt + 1; omega) (by show v3.toInt + 1 ≤ 2147483647; omega)
  refine va_sld hx hb hX hbl hbA hS (vp_in_iff.mpr (by omega)) dL_law_350 ?_
  refine lv_topi (fun y5 ey5 => ?_)
  have qy5 : y5.toInt = y2.toInt := by rw [ey5, ey2, Int32.toInt_inj.mp (show x4.toInt = x1.toInt by omega)]
  have htc := fun w h => hts0 w (hwL_X12_fault w h)
  refine rvi (C := RX12) (As := [.int y5]) (rest := []) ⟨hx, hb, hml, hown, htc⟩ (t_X12_fault l D k u hu mm m_mm k_mm y5) (cwV 1 htc gS_X12_fault rfl rfl rfl (by decide +kernel) ⟨Nat.le_of_ble_eq_true rfl, Nat.le_of_ble_eq_true rfl⟩) hP hK (precv hK hP m_mm (cF12 k_mm) rfl) rfl hl.1 rfl (Nat.le_of_ble_eq_true rfl) dL_law_351 ⟨by show CC ≤ 600000; omega, by show SS ≤ 7302250; omega⟩ (fun r6 hr6 => ?_)
  refine lv_pop hx hb dL_law_354 rfl ?_
  refine lv_goto (tgt := 1769) hx hb dL_law_355 (by decide) ?_
  refine W.widen (k := CC + 389) (n := SS + 3227) (by omega) (by omega) ?_
  exact kk u _ _ ls hu m_x k_x m_mm k_mm hR hP hD hS hl
set_option maxHeartbeats 4000000 in
set_option maxRecDepth 100000 in
theorem law_4 {p : Program} {l : Launch} {e : Env} {s : State} {m : MethodId} {below : List Frame} {meth : Method} {c : Code} {b L : Nat} {xs : Nat → Int32} {D : va_G} {k : Nat → ClassId} {tt : TT} (C0 : lw_At p s m meth c b L xs) (hL : L ≤ 3072) (hN : NW s) (hK : va_K D vwCl (TYS k) s) (hE : SX tt (fun q : Nat => s.heap.size ≤ q) s s.heap) {x mm : Nat} {v3 : Int32} {CC SS : Nat} (hv : 0 ≤ v3.toInt ∧ v3.toInt + 6 ≤ L) (hC : CC + 389 ≤ 600000) (hSl : SS + 3227 ≤ 7302250) (kk : ∀ (u : PSt) (H : Heap) (locs : List Loc) (ls : Array Slot), WT u → x ∈ u.1 → u.2.1 x = 11 → mm ∈ u.1 → u.2.1 mm = 12 → REL u x mm → va_P D vwCl (PW k u) H → va_D (fun q : Nat => s.heap.size ≤ q) (PW k u) → va_S (fun q : Nat => s.heap.size ≤ q) s.heap H locs → lv_has ls 4 [(0, .ref b), (1, .ref x), (2, .ref mm), (3, .int v3)] → W p l e room_1 s m #[Value.ref b] below meth c H locs (CC + 389) (SS + 3227) (lw_Z below #[Value.ref b] s) (F0 m 1769 ls [])) {u : PSt} {H : Heap} {locs : List Loc} {ls : Array Slot} (hu : WT u) (m_x : x ∈ u.1) (k_x : u.2.1 x = 11) (m_mm : mm ∈ u.1) (k_mm : u.2.1 mm = 12) (hR : REL u x mm) (hP : va_P D vwCl (PW k u) H) (hD : va_D (fun q : Nat => s.heap.size ≤ q) (PW k u)) (hS : va_S (fun q : Nat => s.heap.size ≤ q) s.heap H locs) (hl : lv_has ls 4 [(0, .ref b), (1, .ref x), (2, .ref mm), (3, .int v3)]) : W p l e room_1 s m #[Value.ref b] below meth c H locs (CC) (SS) (lw_Z below #[Value.ref b] s) (F0 m 358 ls []) := by
  obtain ⟨hx, hb, hr, hml, hown, hts0, hX, hbl, hlocks, hgv⟩ := id C0
  have hA : ∀ q : Nat, s.heap.size ≤ q → (fun q : Nat => s.heap.size ≤ q) q := fun _ h => h
  have hbA : ¬ (fun q : Nat => s.heap.size ≤ q) b := Nat.not_le.mpr hbl
  refine lv_aload_n hx hb dL_law_358 rfl (lv_at hl 1 rfl) ?_
  refine lv_aload_n hx hb dL_law_359 rfl (lv_at hl 0 rfl) ?_
  refine lv_iload_n hx hb dL_law_360 rfl (lv_at hl 3 rfl) ?_
  refine lv_iconst (v := 1) hx hb dL_law_361 (by decide) ?_
  refine lv_iadd hx hb dL_law_362 ?_
  refine lv_topi (fun x1 ex1 => ?_)
  have tx1 : x1.toInt = v3.toInt + 1 := by rw [ex1]; exact i_add (b := 1) (by show -2147483648 ≤ v3.toInt + 1; omega) (by show v3.toInt + 1 ≤ 2147483647; omega)
  refine va_sld hx hb hX hbl hbA hS (vp_in_iff.mpr (by omega)) dL_law_363 ?_
  refine lv_topi (fun y2 ey2 => ?_)
  have htc := fun w h => hts0 w (hwL_X11_height w h)
  refine rvi (C := RX11) (As := [.int y2]) (rest := []) ⟨hx, hb, hml, hown, htc⟩ (t_X11_height l D k u hu x m_x k_x y2) (cwV 1 htc gS_X11_height rfl rfl rfl (by decide +kernel) ⟨Nat.le_of_ble_eq_true rfl, Nat.le_of_ble_eq_true rfl⟩) hP hK (precv hK hP m_x (cF11 k_x) rfl) rfl hl.1 rfl (Nat.le_of_ble_eq_true rfl) dL_law_364 ⟨by show CC ≤ 600000; omega, by show SS ≤ 7302250; omega⟩ (fun r3 hr3 => ?_)
  refine lv_pop hx hb dL_law_367 rfl ?_
  refine lv_aload_n hx hb dL_law_368 rfl (lv_at hl 2 rfl) ?_
  refine lv_aload_n hx hb dL_law_369 rfl (lv_at hl 0 rfl) ?_
  refine lv_iload_n hx hb dL_law_370 rfl (lv_at hl 3 rfl) ?_
  refine lv_iconst (v := 1) hx hb dL_law_371 (by decide) ?_
  refine lv_iadd hx hb dL_law_372 ?_
  refine lv_topi (fun x4 ex4 => ?_)
  have tx4 : x4.toInt = v3.toInt + 1 := by rw [ex4]; exact i_add (b := 1) (by show -2147483648 ≤ v3.toInt + 1; omega) (by show v3.toInt + 1 ≤ 2147483647; omega)
  refine va_sld hx hb hX hbl hbA hS (vp_in_iff.mpr (by omega)) dL_law_373 ?_
  refine lv_topi (fun y5 ey5 => ?_)
  have qy5 : y5.toInt = y2.toInt := by rw [ey5, ey2, Int32.toInt_inj.mp (show x4.toInt = x1.toInt by omega)]
  have htc := fun w h => hts0 w (hwL_X12_height w h)
  refine rvi (C := RX12) (As := [.int y5]) (rest := []) ⟨hx, hb, hml, hown, htc⟩ (t_X12_height l D k u hu mm m_mm k_mm y5) (cwV 1 htc gS_X12_height rfl rfl rfl (by decide +kernel) ⟨Nat.le_of_ble_eq_true rfl, Nat.le_of_ble_eq_true rfl⟩) hP hK (precv hK hP m_mm (cF12 k_mm) rfl) rfl hl.1 rfl (Nat.le_of_ble_eq_true rfl) dL_law_374 ⟨by show CC ≤ 600000; omega, by show SS ≤ 7302250; omega⟩ (fun r6 hr6 => ?_)
  refine lv_pop hx hb dL_law_377 rfl ?_
  refine lv_goto (tgt := 1769) hx hb dL_law_378 (by decide) ?_
  refine W.widen (k := CC + 389) (n := SS + 3227) (by omega) (by omega) ?_
  exact kk u _ _ ls hu m_x k_x m_mm k_mm hR hP hD hS hl
set_option maxHeartbeats 4000000 in
set_option maxRecDepth 100000 in
theorem law_5 {p : Program} {l : Launch} {e : Env} {s : State} {m : MethodId} {below : List Frame} {meth : Method} {c : Code} {b L : Nat} {xs : Nat → Int32} {D : va_G} {k : Nat → ClassId} {tt : TT} (C0 : lw_At p s m meth c b L xs) (hL : L ≤ 3072) (hN : NW s) (hK : va_K D vwCl (TYS k) s) (hE : SX tt (fun q : Nat => s.heap.size ≤ q) s s.heap) {x mm : Nat} {v3 : Int32} {CC SS : Nat} (hv : 0 ≤ v3.toInt ∧ v3.toInt + 6 ≤ L) (hC : CC + 389 ≤ 600000) (hSl : SS + 3227 ≤ 7302250) (kk : ∀ (u : PSt) (H : Heap) (locs : List Loc) (ls : Array Slot), WT u → x ∈ u.1 → u.2.1 x = 11 → mm ∈ u.1 → u.2.1 mm = 12 → REL u x mm → va_P D vwCl (PW k u) H → va_D (fun q : Nat => s.heap.size ≤ q) (PW k u) → va_S (fun q : Nat => s.heap.size ≤ q) s.heap H locs → lv_has ls 4 [(0, .ref b), (1, .ref x), (2, .ref mm), (3, .int v3)] → W p l e room_1 s m #[Value.ref b] below meth c H locs (CC + 389) (SS + 3227) (lw_Z below #[Value.ref b] s) (F0 m 1769 ls [])) {u : PSt} {H : Heap} {locs : List Loc} {ls : Array Slot} (hu : WT u) (m_x : x ∈ u.1) (k_x : u.2.1 x = 11) (m_mm : mm ∈ u.1) (k_mm : u.2.1 mm = 12) (hR : REL u x mm) (hP : va_P D vwCl (PW k u) H) (hD : va_D (fun q : Nat => s.heap.size ≤ q) (PW k u)) (hS : va_S (fun q : Nat => s.heap.size ≤ q) s.heap H locs) (hl : lv_has ls 4 [(0, .ref b), (1, .ref x), (2, .ref mm), (3, .int v3)]) : W p l e room_1 s m #[Value.ref b] below meth c H locs (CC) (SS) (lw_Z below #[Value.ref b] s) (F0 m 381 ls []) := by
  obtain ⟨hx, hb, hr, hml, hown, hts0, hX, hbl, hlocks, hgv⟩ := id C0
  have hA : ∀ q : Nat, s.heap.size ≤ q → (fun q : Nat => s.heap.size ≤ q) q := fun _ h => h
  have hbA : ¬ (fun q : Nat => s.heap.size ≤ q) b := Nat.not_le.mpr hbl
  refine lv_aload_n hx hb dL_law_381 rfl (lv_at hl 1 rfl) ?_
  refine lv_aload_n hx hb dL_law_382 rfl (lv_at hl 0 rfl) ?_
  refine lv_iload_n hx hb dL_law_383 rfl (lv_at hl 3 rfl) ?_
  refine lv_iconst (v := 1) hx hb dL_law_384 (by decide) ?_
  refine lv_iadd hx hb dL_law_385 ?_
  refine lv_topi (fun x1 ex1 => ?_)
  have tx1 : x1.toInt = v3.toInt + 1 := by rw [ex1]; exact i_add (b := 1) (by show -2147483648 ≤ v3.toInt + 1; omega) (by show v3.toInt + 1 ≤ 2147483647; omega)
  refine va_sld hx hb hX hbl hbA hS (vp_in_iff.mpr (by omega)) dL_law_386 ?_
  refine lv_topi (fun y2 ey2 => ?_)
  refine lv_aload_n hx hb dL_law_387 rfl (lv_at hl 0 rfl) ?_
  refine lv_iload_n hx hb dL_law_388 rfl (lv_at hl 3 rfl) ?_
  refine lv_iconst (v := 2) hx hb dL_law_389 (by decide) ?_
  refine lv_iadd hx hb dL_law_390 ?_
  refine lv_topi (fun x3 ex3 => ?_)
  have tx3 : x3.toInt = v3.toInt + 2 := by rw [ex3]; exact i_add (b := 2) (by show -2147483648 ≤ v3.toInt + 2; omega) (by show v3.toInt + 2 ≤ 2147483647; omega)
  refine va_sld hx hb hX hbl hbA hS (vp_in_iff.mpr (by omega)) dL_law_391 ?_
  refine lv_topi (fun y4 ey4 => ?_)
  have htc := fun w h => hts0 w (hwL_X11_pipe w h)
  refine rvi (C := RX11) (As := [.int y2, .int y4]) (rest := []) ⟨hx, hb, hml, hown, htc⟩ (t_X11_pipe l D k u hu x m_x k_x y2 y4) (cwV 2 htc gS_X11_pipe rfl rfl rfl (by decide +kernel) ⟨Nat.le_of_ble_eq_true rfl, Nat.le_of_ble_eq_true rfl⟩) hP hK (precv hK hP m_x (cF11 k_x) rfl) rfl hl.1 rfl (Nat.le_of_ble_eq_true rfl) dL_law_392 ⟨by show CC ≤ 600000; omega, by show SS ≤ 7302250; omega⟩ (fun r5 hr5 => ?_)
  refine lv_pop hx hb dL_law_395 rfl ?_
  refine lv_aload_n hx hb dL_law_396 rfl (lv_at hl 2 rfl) ?_
  refine lv_aload_n hx hb dL_law_397 rfl (lv_at hl 0 rfl) ?_
  refine lv_iload_n hx hb dL_law_398 rfl (lv_at hl 3 rfl) ?_
  refine lv_iconst (v := 1) hx hb dL_law_399 (by decide) ?_
  refine lv_iadd hx hb dL_law_400 ?_
  refine lv_topi (fun x6 ex6 => ?_)
  have tx6 : x6.toInt = v3.toInt + 1 := by rw [ex6]; exact i_add (b := 1) (by show -2147483648 ≤ v3.toInt + 1; omega) (by show v3.toInt + 1 ≤ 2147483647; omega)
  refine va_sld hx hb hX hbl hbA hS (vp_in_iff.mpr (by omega)) dL_law_401 ?_
  refine lv_topi (fun y7 ey7 => ?_)
  have qy7 : y7.toInt = y2.toInt := by rw [ey7, ey2, Int32.toInt_inj.mp (show x6.toInt = x1.toInt by omega)]
  refine lv_aload_n hx hb dL_law_402 rfl (lv_at hl 0 rfl) ?_
  refine lv_iload_n hx hb dL_law_403 rfl (lv_at hl 3 rfl) ?_
  refine lv_iconst (v := 2) hx hb dL_law_404 (by decide) ?_
  refine lv_iadd hx hb dL_law_405 ?_
  refine lv_topi (fun x8 ex8 => ?_)
  have tx8 : x8.toInt = v3.toInt + 2 := by rw [ex8]; exact i_add (b := 2) (by show -2147483648 ≤ v3.toInt + 2; omega) (by show v3.toInt + 2 ≤ 2147483647; omega)
  refine va_sld hx hb hX hbl hbA hS (vp_in_iff.mpr (by omega)) dL_law_406 ?_
  refine lv_topi (fun y9 ey9 => ?_)
  have qy9 : y9.toInt = y4.toInt := by rw [ey9, ey4, Int32.toInt_inj.mp (show x8.toInt = x3.toInt by omega)]
  have htc := fun w h => hts0 w (hwL_X12_pipe w h)
  refine wiV (C := RX12) (As := [.int y7, .int y9]) (rest := []) ⟨hx, hb, hml, hown, htc⟩ (fun sz => t_X12_pipe l D k u hu mm m_mm k_mm y7 y9 sz) (cwV 2 htc gS_X12_pipe rfl rfl rfl (by decide +kernel) ⟨Nat.le_of_ble_eq_true rfl, Nat.le_of_ble_eq_true rfl⟩) hP hK hD hN hS hA (precv hK hP m_mm (cF12 k_mm) rfl) rfl hl.1 rfl (Nat.le_of_ble_eq_true rfl) dL_law_407 ⟨by show CC + _ ≤ 600000; omega, by show SS + _ ≤ 7302250; omega⟩ (fun r10 u11 H locs hq hP hD hS => ?_)
  obtain ⟨hu, hxu11, hr10⟩ := hq
  have hR := REL.px m_x k_x m_mm k_mm hR hxu11
  have k_x : u11.2.1 x = 11 := (hxu11 x m_x).2.1.trans k_x
  have m_x : x ∈ u11.1 := (hxu11 x m_x).1
  have k_mm : u11.2.1 mm = 12 := (hxu11 mm m_mm).2.1.trans k_mm
  have m_mm : mm ∈ u11.1 := (hxu11 mm m_mm).1
  refine lv_pop hx hb dL_law_410 rfl ?_
  refine lv_goto (tgt := 1769) hx hb dL_law_411 (by decide) ?_
  refine W.widen (k := CC + 389) (n := SS + 3227) (by omega) (by omega) ?_
  exact kk u11 _ _ ls hu m_x k_x m_mm k_mm hR hP hD hS hl
set_option maxHeartbeats 4000000 in
set_option maxRecDepth 100000 in
theorem law_6 {p : Program} {l : Launch} {e : Env} {s : State} {m : MethodId} {below : List Frame} {meth : Method} {c : Code} {b L : Nat} {xs : Nat → Int32} {D : va_G} {k : Nat → ClassId} {tt : TT} (C0 : lw_At p s m meth c b L xs) (hL : L ≤ 3072) (hN : NW s) (hK : va_K D vwCl (TYS k) s) (hE : SX tt (fun q : Nat => s.heap.size ≤ q) s s.heap) {x mm : Nat} {v3 : Int32} {CC SS : Nat} (hv : 0 ≤ v3.toInt ∧ v3.toInt + 6 ≤ L) (hC : CC + 389 ≤ 600000) (hSl : SS + 3227 ≤ 7302250) (kk : ∀ (u : PSt) (H : Heap) (locs : List Loc) (ls : Array Slot), WT u → x ∈ u.1 → u.2.1 x = 11 → mm ∈ u.1 → u.2.1 mm = 12 → REL u x mm → va_P D vwCl (PW k u) H → va_D (fun q : Nat => s.heap.size ≤ q) (PW k u) → va_S (fun q : Nat => s.heap.size ≤ q) s.heap H locs → lv_has ls 4 [(0, .ref b), (1, .ref x), (2, .ref mm), (3, .int v3)] → W p l e room_1 s m #[Value.ref b] below meth c H locs (CC + 389) (SS + 3227) (lw_Z below #[Value.ref b] s) (F0 m 1769 ls [])) {u : PSt} {H : Heap} {locs : List Loc} {ls : Array Slot} (hu : WT u) (m_x : x ∈ u.1) (k_x : u.2.1 x = 11) (m_mm : mm ∈ u.1) (k_mm : u.2.1 mm = 12) (hR : REL u x mm) (hP : va_P D vwCl (PW k u) H) (hD : va_D (fun q : Nat => s.heap.size ≤ q) (PW k u)) (hS : va_S (fun q : Nat => s.heap.size ≤ q) s.heap H locs) (hl : lv_has ls 4 [(0, .ref b), (1, .ref x), (2, .ref mm), (3, .int v3)]) : W p l e room_1 s m #[Value.ref b] below meth c H locs (CC) (SS) (lw_Z below #[Value.ref b] s) (F0 m 414 ls []) := by
  obtain ⟨hx, hb, hr, hml, hown, hts0, hX, hbl, hlocks, hgv⟩ := id C0
  have hA : ∀ q : Nat, s.heap.size ≤ q → (fun q : Nat => s.heap.size ≤ q) q := fun _ h => h
  have hbA : ¬ (fun q : Nat => s.heap.size ≤ q) b := Nat.not_le.mpr hbl
  refine lv_aload_n hx hb dL_law_414 rfl (lv_at hl 1 rfl) ?_
  refine lv_aload_n hx hb dL_law_415 rfl (lv_at hl 0 rfl) ?_
  refine lv_iload_n hx hb dL_law_416 rfl (lv_at hl 3 rfl) ?_
  refine lv_iconst (v := 1) hx hb dL_law_417 (by decide) ?_
  refine lv_iadd hx hb dL_law_418 ?_
  refine lv_topi (fun x1 ex1 => ?_)
  have tx1 : x1.toInt = v3.toInt + 1 := by rw [ex1]; exact i_add (b := 1) (by show -2147483648 ≤ v3.toInt + 1; omega) (by show v3.toInt + 1 ≤ 2147483647; omega)
  refine va_sld hx hb hX hbl hbA hS (vp_in_iff.mpr (by omega)) dL_law_419 ?_
  refine lv_topi (fun y2 ey2 => ?_)
  refine lv_aload_n hx hb dL_law_420 rfl (lv_at hl 0 rfl) ?_
  refine lv_iload_n hx hb dL_law_421 rfl (lv_at hl 3 rfl) ?_
  refine lv_iconst (v := 2) hx hb dL_law_422 (by decide) ?_
  refine lv_iadd hx hb dL_law_423 ?_
  refine lv_topi (fun x3 ex3 => ?_)
  have tx3 : x3.toInt = v3.toInt + 2 := by rw [ex3]; exact i_add (b := 2) (by show -2147483648 ≤ v3.toInt + 2; omega) (by show v3.toInt + 2 ≤ 2147483647; omega)
  refine va_sld hx hb hX hbl hbA hS (vp_in_iff.mpr (by omega)) dL_law_424 ?_
  refine lv_topi (fun y4 ey4 => ?_)
  refine lv_aload_n hx hb dL_law_425 rfl (lv_at hl 0 rfl) ?_
  refine lv_iload_n hx hb dL_law_426 rfl (lv_at hl 3 rfl) ?_
  refine lv_iconst (v := 3) hx hb dL_law_427 (by decide) ?_
  refine lv_iadd hx hb dL_law_428 ?_
  refine lv_topi (fun x5 ex5 => ?_)
  have tx5 : x5.toInt = v3.toInt + 3 := by rw [ex5]; exact i_add (b := 3) (by show -2147483648 ≤ v3.toInt + 3; omega) (by show v3.toInt + 3 ≤ 2147483647; omega)
  refine va_sld hx hb hX hbl hbA hS (vp_in_iff.mpr (by omega)) dL_law_429 ?_
  refine lv_topi (fun y6 ey6 => ?_)
  have htc := fun w h => hts0 w (hwL_X11_bend w h)
  refine rvi (C := RX11) (As := [.int y2, .int y4, .int y6]) (rest := []) ⟨hx, hb, hml, hown, htc⟩ (t_X11_bend l D k u hu x m_x k_x y2 y4 y6) (cwV 3 htc gS_X11_bend rfl rfl rfl (by decide +kernel) ⟨Nat.le_of_ble_eq_true rfl, Nat.le_of_ble_eq_true rfl⟩) hP hK (precv hK hP m_x (cF11 k_x) rfl) rfl hl.1 rfl (Nat.le_of_ble_eq_true rfl) dL_law_430 ⟨by show CC ≤ 600000; omega, by show SS ≤ 7302250; omega⟩ (fun r7 hr7 => ?_)
  refine lv_pop hx hb dL_law_433 rfl ?_
  refine lv_aload_n hx hb dL_law_434 rfl (lv_at hl 2 rfl) ?_
  refine lv_aload_n hx hb dL_law_435 rfl (lv_at hl 0 rfl) ?_
  refine lv_iload_n hx hb dL_law_436 rfl (lv_at hl 3 rfl) ?_
  refine lv_iconst (v := 1) hx hb dL_law_437 (by decide) ?_
  refine lv_iadd hx hb dL_law_438 ?_
  refine lv_topi (fun x8 ex8 => ?_)
  have tx8 : x8.toInt = v3.toInt + 1 := by rw [ex8]; exact i_add (b := 1) (by show -2147483648 ≤ v3.toInt + 1; omega) (by show v3.toInt + 1 ≤ 2147483647; omega)
  refine va_sld hx hb hX hbl hbA hS (vp_in_iff.mpr (by omega)) dL_law_439 ?_
  refine lv_topi (fun y9 ey9 => ?_)
  have qy9 : y9.toInt = y2.toInt := by rw [ey9, ey2, Int32.toInt_inj.mp (show x8.toInt = x1.toInt by omega)]
  refine lv_aload_n hx hb dL_law_440 rfl (lv_at hl 0 rfl) ?_
  refine lv_iload_n hx hb dL_law_441 rfl (lv_at hl 3 rfl) ?_
  refine lv_iconst (v := 2) hx hb dL_law_442 (by decide) ?_
  refine lv_iadd hx hb dL_law_443 ?_
  refine lv_topi (fun x10 ex10 => ?_)
  have tx10 : x10.toInt = v3.toInt + 2 := by rw [ex10]; exact i_add (b := 2) (by show -2147483648 ≤ v3.toInt + 2; omega) (by show v3.toInt + 2 ≤ 2147483647; omega)
  refine va_sld hx hb hX hbl hbA hS (vp_in_iff.mpr (by omega)) dL_law_444 ?_
  refine lv_topi (fun y11 ey11 => ?_)
  have qy11 : y11.toInt = y4.toInt := by rw [ey11, ey4, Int32.toInt_inj.mp (show x10.toInt = x3.toInt by omega)]
  refine lv_aload_n hx hb dL_law_445 rfl (lv_at hl 0 rfl) ?_
  refine lv_iload_n hx hb dL_law_446 rfl (lv_at hl 3 rfl) ?_
  refine lv_iconst (v := 3) hx hb dL_law_447 (by decide) ?_
  refine lv_iadd hx hb dL_law_448 ?_
  refine lv_topi (fun x12 ex12 => ?_)
  have tx12 : x12.toInt = v3.toInt + 3 := by rw [ex12]; exact i_add (b := 3) (by show -2147483648 ≤ v3.toInt + 3; omega) (by show v3.toInt + 3 ≤ 2147483647; omega)
  refine va_sld hx hb hX hbl hbA hS (vp_in_iff.mpr (by omega)) dL_law_449 ?_
  refine lv_topi (fun y13 ey13 => ?_)
  have qy13 : y13.toInt = y6.toInt := by rw [ey13, ey6, Int32.toInt_inj.mp (show x12.toInt = x5.toInt by omega)]
  have htc := fun w h => hts0 w (hwL_X12_bend w h)
  refine wiV (C := RX12) (As := [.int y9, .int y11, .int y13]) (rest := []) ⟨hx, hb, hml, hown, htc⟩ (fun sz => t_X12_bend l D k u hu mm m_mm k_mm y9 y11 y13 sz) (cwV 3 htc gS_X12_bend rfl rfl rfl (by decide +kernel) ⟨Nat.le_of_ble_eq_true rfl, Nat.le_of_ble_eq_true rfl⟩) hP hK hD hN hS hA (precv hK hP m_mm (cF12 k_mm) rfl) rfl hl.1 rfl (Nat.le_of_ble_eq_true rfl) dL_law_450 ⟨by show CC + _ ≤ 600000; omega, by show SS + _ ≤ 7302250; omega⟩ (fun r14 u15 H locs hq hP hD hS => ?_)
  obtain ⟨hu, hxu15, hr14⟩ := hq
  have hR := REL.px m_x k_x m_mm k_mm hR hxu15
  have k_x : u15.2.1 x = 11 := (hxu15 x m_x).2.1.trans k_x
  have m_x : x ∈ u15.1 := (hxu15 x m_x).1
  have k_mm : u15.2.1 mm = 12 := (hxu15 mm m_mm).2.1.trans k_mm
  have m_mm : mm ∈ u15.1 := (hxu15 mm m_mm).1
  refine lv_pop hx hb dL_law_453 rfl ?_
  refine lv_goto (tgt := 1769) hx hb dL_law_454 (by decide) ?_
  refine W.widen (k := CC + 389) (n := SS + 3227) (by omega) (by omega) ?_
  exact kk u15 _ _ ls hu m_x k_x m_mm k_mm hR hP hD hS hl
set_option maxHeartbeats 4000000 in
set_option maxRecDepth 100000 in
theorem law_7 {p : Program} {l : Launch} {e : Env} {s : State} {m : MethodId} {below : List Frame} {meth : Method} {c : Code} {b L : Nat} {xs : Nat → Int32} {D : va_G} {k : Nat → ClassId} {tt : TT} (C0 : lw_At p s m meth c b L xs) (hL : L ≤ 3072) (hN : NW s) (hK : va_K D vwCl (TYS k) s) (hE : SX tt (fun q : Nat => s.heap.size ≤ q) s s.heap) {x mm : Nat} {v3 : Int32} {CC SS : Nat} (hv : 0 ≤ v3.toInt ∧ v3.toInt + 6 ≤ L) (hC : CC + 389 ≤ 600000) (hSl : SS + 3227 ≤ 7302250) (kk : ∀ (u : PSt) (H : Heap) (locs : List Loc) (ls : Array Slot), WT u → x ∈ u.1 → u.2.1 x = 11 → mm ∈ u.1 → u.2.1 mm = 12 → REL u x mm → va_P D vwCl (PW k u) H → va_D (fun q : Nat => s.heap.size ≤ q) (PW k u) → va_S (fun q : Nat => s.heap.size ≤ q) s.heap H locs → lv_has ls 4 [(0, .ref b), (1, .ref x), (2, .ref mm), (3, .int v3)] → W p l e room_1 s m #[Value.ref b] below meth c H locs (CC + 389) (SS + 3227) (lw_Z below #[Value.ref b] s) (F0 m 1769 ls [])) {u : PSt} {H : Heap} {locs : List Loc} {ls : Array Slot} (hu : WT u) (m_x : x ∈ u.1) (k_x : u.2.1 x = 11) (m_mm : mm ∈ u.1) (k_mm : u.2.1 mm = 12) (hR : REL u x mm) (hP : va_P D vwCl (PW k u) H) (hD : va_D (fun q : Nat => s.heap.size ≤ q) (PW k u)) (hS : va_S (fun q : Nat => s.heap.size ≤ q) s.heap H locs) (hl : lv_has ls 4 [(0, .ref b), (1, .ref x), (2, .ref mm), (3, .int v3)]) : W p l e room_1 s m #[Value.ref b] below meth c H locs (CC) (SS) (lw_Z below #[Value.ref b] s) (F0 m 457 ls []) := by
  obtain ⟨hx, hb, hr, hml, hown, hts0, hX, hbl, hlocks, hgv⟩ := id C0
  have hA : ∀ q : Nat, s.heap.size ≤ q → (fun q : Nat => s.heap.size ≤ q) q := fun _ h => h
  have hbA : ¬ (fun q : Nat => s.heap.size ≤ q) b := Nat.not_le.mpr hbl
  refine lv_aload_n hx hb dL_law_457 rfl (lv_at hl 1 rfl) ?_
  refine lv_aload_n hx hb dL_law_458 rfl (lv_at hl 0 rfl) ?_
  refine lv_iload_n hx hb dL_law_459 rfl (lv_at hl 3 rfl) ?_
  refine lv_iconst (v := 1) hx hb dL_law_460 (by decide) ?_
  refine lv_iadd hx hb dL_law_461 ?_
  refine lv_topi (fun x1 ex1 => ?_)
  have tx1 : x1.toInt = v3.toInt + 1 := by rw [ex1]; exact i_add (b := 1) (by show -2147483648 ≤ v3.toInt + 1; omega) (by show v3.toInt + 1 ≤ 2147483647; omega)
  refine va_sld hx hb hX hbl hbA hS (vp_in_iff.mpr (by omega)) dL_law_462 ?_
  refine lv_topi (fun y2 ey2 => ?_)
  refine lv_aload_n hx hb dL_law_463 rfl (lv_at hl 0 rfl) ?_
  refine lv_iload_n hx hb dL_law_464 rfl (lv_at hl 3 rfl) ?_
  refine lv_iconst (v := 2) hx hb dL_law_465 (by decide) ?_
  refine lv_iadd hx hb dL_law_466 ?_
  refine lv_topi (fun x3 ex3 => ?_)
  have tx3 : x3.toInt = v3.toInt + 2 := by rw [ex3]; exact i_add (b := 2) (by show -2147483648 ≤ v3.toInt + 2; omega) (by show v3.toInt + 2 ≤ 2147483647; omega)
  refine va_sld hx hb hX hbl hbA hS (vp_in_iff.mpr (by omega)) dL_law_467 ?_
  refine lv_topi (fun y4 ey4 => ?_)
  have htc := fun w h => hts0 w (hwL_X11_need w h)
  refine wlV (C := RX11) (As := [.int y2, .int y4]) (rest := []) ⟨hx, hb, hml, hown, htc⟩ (fun sz => t_X11_need l D k u hu x m_x k_x y2 y4 sz) (cwV 2 htc gS_X11_need rfl rfl rfl (by decide +kernel) ⟨Nat.le_of_ble_eq_true rfl, Nat.le_of_ble_eq_true rfl⟩) hP hK hD hN hS hA (precv hK hP m_x (cF11 k_x) rfl) rfl hl.1 rfl (Nat.le_of_ble_eq_true rfl) dL_law_468 ⟨by show CC + _ ≤ 600000; omega, by show SS + _ ≤ 7302250; omega⟩ (fun r5 u6 H locs hq hP hD hS => ?_)
  obtain ⟨hu, hxu6, hr5⟩ := hq
  have hR := REL.px m_x k_x m_mm k_mm hR hxu6
  have k_x : u6.2.1 x = 11 := (hxu6 x m_x).2.1.trans k_x
  have m_x : x ∈ u6.1 := (hxu6 x m_x).1
  have k_mm : u6.2.1 mm = 12 := (hxu6 mm m_mm).2.1.trans k_mm
  have m_mm : mm ∈ u6.1 := (hxu6 mm m_mm).1
  refine lv_pop2_2 hx hb dL_law_471 rfl ?_
  refine lv_aload_n hx hb dL_law_472 rfl (lv_at hl 2 rfl) ?_
  refine lv_aload_n hx hb dL_law_473 rfl (lv_at hl 0 rfl) ?_
  refine lv_iload_n hx hb dL_law_474 rfl (lv_at hl 3 rfl) ?_
  refine lv_iconst (v := 1) hx hb dL_law_475 (by decide) ?_
  refine lv_iadd hx hb dL_law_476 ?_
  refine lv_topi (fun x7 ex7 => ?_)
  have tx7 : x7.toInt = v3.toInt + 1 := by rw [ex7]; exact i_add (b := 1) (by show -2147483648 ≤ v3.toInt + 1; omega) (by show v3.toInt + 1 ≤ 2147483647; omega)
  refine va_sld hx hb hX hbl hbA hS (vp_in_iff.mpr (by omega)) dL_law_477 ?_
  refine lv_topi (fun y8 ey8 => ?_)
  have qy8 : y8.toInt = y2.toInt := by rw [ey8, ey2, Int32.toInt_inj.mp (show x7.toInt = x1.toInt by omega)]
  refine lv_aload_n hx hb dL_law_478 rfl (lv_at hl 0 rfl) ?_
  refine lv_iload_n hx hb dL_law_479 rfl (lv_at hl 3 rfl) ?_
  refine lv_iconst (v := 2) hx hb dL_law_480 (by decide) ?_
  refine lv_iadd hx hb dL_law_481 ?_
  refine lv_topi (fun x9 ex9 => ?_)
  have tx9 : x9.toInt = v3.toInt + 2 := by rw [ex9]; exact i_add (b := 2) (by show -2147483648 ≤ v3.toInt + 2; omega) (by show v3.toInt + 2 ≤ 2147483647; omega)
  refine va_sld hx hb hX hbl hbA hS (vp_in_iff.mpr (by omega)) dL_law_482 ?_
  refine lv_topi (fun y10 ey10 => ?_)
  have qy10 : y10.toInt = y4.toInt := by rw [ey10, ey4, Int32.toInt_inj.mp (show x9.toInt = x3.toInt by omega)]
  have htc := fun w h => hts0 w (hwL_X12_need w h)
  refine wlV (C := RX12) (As := [.int y8, .int y10]) (rest := []) ⟨hx, hb, hml, hown, htc⟩ (fun sz => t_X12_need l D k u6 hu mm m_mm k_mm y8 y10 sz) (cwV 2 htc gS_X12_need rfl rfl rfl (by decide +kernel) ⟨Nat.le_of_ble_eq_true rfl, Nat.le_of_ble_eq_true rfl⟩) hP hK hD hN hS hA (precv hK hP m_mm (cF12 k_mm) rfl) rfl hl.1 rfl (Nat.le_of_ble_eq_true rfl) dL_law_483 ⟨by show CC + _ ≤ 600000; omega, by show SS + _ ≤ 7302250; omega⟩ (fun r11 u12 H locs hq hP hD hS => ?_)
  obtain ⟨hu, hxu12, hr11⟩ := hq
  have hR := REL.px m_x k_x m_mm k_mm hR hxu12
  have k_x : u12.2.1 x = 11 := (hxu12 x m_x).2.1.trans k_x
  have m_x : x ∈ u12.1 := (hxu12 x m_x).1
  have k_mm : u12.2.1 mm = 12 := (hxu12 mm m_mm).2.1.trans k_mm
  have m_mm : mm ∈ u12.1 := (hxu12 mm m_mm).1
  refine lv_pop2_2 hx hb dL_law_486 rfl ?_
  refine lv_goto (tgt := 1769) hx hb dL_law_487 (by decide) ?_
  refine W.widen (k := CC + 389) (n := SS + 3227) (by omega) (by omega) ?_
  exact kk u12 _ _ ls hu m_x k_x m_mm k_mm hR hP hD hS hl
set_option maxHeartbeats 4000000 in
set_option maxRecDepth 100000 in
theorem law_8 {p : Program} {l : Launch} {e : Env} {s : State} {m : MethodId} {below : List Frame} {meth : Method} {c : Code} {b L : Nat} {xs : Nat → Int32} {D : va_G} {k : Nat → ClassId} {tt : TT} (C0 : lw_At p s m meth c b L xs) (hL : L ≤ 3072) (hN : NW s) (hK : va_K D vwCl (TYS k) s) (hE : SX tt (fun q : Nat => s.heap.size ≤ q) s s.heap) {x mm : Nat} {v3 : Int32} {CC SS : Nat} (hv : 0 ≤ v3.toInt ∧ v3.toInt + 6 ≤ L) (hC : CC + 389 ≤ 600000) (hSl : SS + 3227 ≤ 7302250) (kk : ∀ (u : PSt) (H : Heap) (locs : List Loc) (ls : Array Slot), WT u → x ∈ u.1 → u.2.1 x = 11 → mm ∈ u.1 → u.2.1 mm = 12 → REL u x mm → va_P D vwCl (PW k u) H → va_D (fun q : Nat => s.heap.size ≤ q) (PW k u) → va_S (fun q : Nat => s.heap.size ≤ q) s.heap H locs → lv_has ls 4 [(0, .ref b), (1, .ref x), (2, .ref mm), (3, .int v3)] → W p l e room_1 s m #[Value.ref b] below meth c H locs (CC + 389) (SS + 3227) (lw_Z below #[Value.ref b] s) (F0 m 1769 ls [])) {u : PSt} {H : Heap} {locs : List Loc} {ls : Array Slot} (hu : WT u) (m_x : x ∈ u.1) (k_x : u.2.1 x = 11) (m_mm : mm ∈ u.1) (k_mm : u.2.1 mm = 12) (hR : REL u x mm) (hP : va_P D vwCl (PW k u) H) (hD : va_D (fun q : Nat => s.heap.size ≤ q) (PW k u)) (hS : va_S (fun q : Nat => s.heap.size ≤ q) s.heap H locs) (hl : lv_has ls 4 [(0, .ref b), (1, .ref x), (2, .ref mm), (3, .int v3)]) : W p l e room_1 s m #[Value.ref b] below meth c H locs (CC) (SS) (lw_Z below #[Value.ref b] s) (F0 m 490 ls []) := by
  obtain ⟨hx, hb, hr, hml, hown, hts0, hX, hbl, hlocks, hgv⟩ := id C0
  have hA : ∀ q : Nat, s.heap.size ≤ q → (fun q : Nat => s.heap.size ≤ q) q := fun _ h => h
  have hbA : ¬ (fun q : Nat => s.heap.size ≤ q) b := Nat.not_le.mpr hbl
  refine lv_aload_n hx hb dL_law_490 rfl (lv_at hl 1 rfl) ?_
  refine lv_aload_n hx hb dL_law_491 rfl (lv_at hl 0 rfl) ?_
  refine lv_iload_n hx hb dL_law_492 rfl (lv_at hl 3 rfl) ?_
  refine lv_iconst (v := 1) hx hb dL_law_493 (by decide) ?_
  refine lv_iadd hx hb dL_law_494 ?_
  refine lv_topi (fun x1 ex1 => ?_)
  have tx1 : x1.toInt = v3.toInt + 1 := by rw [ex1]; exact i_add (b := 1) (by show -2147483648 ≤ v3.toInt + 1; omega) (by show v3.toInt + 1 ≤ 2147483647; omega)
  refine va_sld hx hb hX hbl hbA hS (vp_in_iff.mpr (by omega)) dL_law_495 ?_
  refine lv_topi (fun y2 ey2 => ?_)
  refine lv_aload_n hx hb dL_law_496 rfl (lv_at hl 0 rfl) ?_
  refine lv_iload_n hx hb dL_law_497 rfl (lv_at hl 3 rfl) ?_
  refine lv_iconst (v := 2) hx hb dL_law_498 (by decide) ?_
  refine lv_iadd hx hb dL_law_499 ?_
  refine lv_topi (fun x3 ex3 => ?_)
  have tx3 : x3.toInt = v3.toInt + 2 := by rw [ex3]; exact i_add (b := 2) (by show -2147483648 ≤ v3.toInt + 2; omega) (by show v3.toInt + 2 ≤ 2147483647; omega)
  refine va_sld hx hb hX hbl hbA hS (vp_in_iff.mpr (by omega)) dL_law_500 ?_
  refine lv_topi (fun y4 ey4 => ?_)
  have htc := fun w h => hts0 w (hwL_X11_load w h)
  refine wiV (C := RX11) (As := [.int y2, .int y4]) (rest := []) ⟨hx, hb, hml, hown, htc⟩ (fun sz => t_X11_load l D k u hu x m_x k_x y2 y4 sz) (cwV 2 htc gS_X11_load rfl rfl rfl (by decide +kernel) ⟨Nat.le_of_ble_eq_true rfl, Nat.le_of_ble_eq_true rfl⟩) hP hK hD hN hS hA (precv hK hP m_x (cF11 k_x) rfl) rfl hl.1 rfl (Nat.le_of_ble_eq_true rfl) dL_law_501 ⟨by show CC + _ ≤ 600000; omega, by show SS + _ ≤ 7302250; omega⟩ (fun r5 u6 H locs hq hP hD hS => ?_)
  obtain ⟨hu, hxu6, hr5⟩ := hq
  have hR := REL.px m_x k_x m_mm k_mm hR hxu6
  have k_x : u6.2.1 x = 11 := (hxu6 x m_x).2.1.trans k_x
  have m_x : x ∈ u6.1 := (hxu6 x m_x).1
  have k_mm : u6.2.1 mm = 12 := (hxu6 mm m_mm).2.1.trans k_mm
  have m_mm : mm ∈ u6.1 := (hxu6 mm m_mm).1
  refine lv_pop hx hb dL_law_504 rfl ?_
  refine lv_aload_n hx hb dL_law_505 rfl (lv_at hl 2 rfl) ?_
  refine lv_aload_n hx hb dL_law_506 rfl (lv_at hl 0 rfl) ?_
  refine lv_iload_n hx hb dL_law_507 rfl (lv_at hl 3 rfl) ?_
  refine lv_iconst (v := 1) hx hb dL_law_508 (by decide) ?_
  refine lv_iadd hx hb dL_law_509 ?_
  refine lv_topi (fun x7 ex7 => ?_)
  have tx7 : x7.toInt = v3.toInt + 1 := by rw [ex7]; exact i_add (b := 1) (by show -2147483648 ≤ v3.toInt + 1; omega) (by show v3.toInt + 1 ≤ 2147483647; omega)
  refine va_sld hx hb hX hbl hbA hS (vp_in_iff.mpr (by omega)) dL_law_510 ?_
  refine lv_topi (fun y8 ey8 => ?_)
  have qy8 : y8.toInt = y2.toInt := by rw [ey8, ey2, Int32.toInt_inj.mp (show x7.toInt = x1.toInt by omega)]
  refine lv_aload_n hx hb dL_law_511 rfl (lv_at hl 0 rfl) ?_
  refine lv_iload_n hx hb dL_law_512 rfl (lv_at hl 3 rfl) ?_
  refine lv_iconst (v := 2) hx hb dL_law_513 (by decide) ?_
  refine lv_iadd hx hb dL_law_514 ?_
  refine lv_topi (fun x9 ex9 => ?_)
  have tx9 : x9.toInt = v3.toInt + 2 := by rw [ex9]; exact i_add (b := 2) (by show -2147483648 ≤ v3.toInt + 2; omega) (by show v3.toInt + 2 ≤ 2147483647; omega)
  refine va_sld hx hb hX hbl hbA hS (vp_in_iff.mpr (by omega)) dL_law_515 ?_
  refine lv_topi (fun y10 ey10 => ?_)
  have qy10 : y10.toInt = y4.toInt := by rw [ey10, ey4, Int32.toInt_inj.mp (show x9.toInt = x3.toInt by omega)]
  have htc := fun w h => hts0 w (hwL_X12_load w h)
  refine wiV (C := RX12) (As := [.int y8, .int y10]) (rest := []) ⟨hx, hb, hml, hown, htc⟩ (fun sz => t_X12_load l D k u6 hu mm m_mm k_mm y8 y10 sz) (cwV 2 htc gS_X12_load rfl rfl rfl (by decide +kernel) ⟨Nat.le_of_ble_eq_true rfl, Nat.le_of_ble_eq_true rfl⟩) hP hK hD hN hS hA (precv hK hP m_mm (cF12 k_mm) rfl) rfl hl.1 rfl (Nat.le_of_ble_eq_true rfl) dL_law_516 ⟨by show CC + _ ≤ 600000; omega, by show SS + _ ≤ 7302250; omega⟩ (fun r11 u12 H locs hq hP hD hS => ?_)
  obtain ⟨hu, hxu12, hr11⟩ := hq
  have hR := REL.px m_x k_x m_mm k_mm hR hxu12
  have k_x : u12.2.1 x = 11 := (hxu12 x m_x).2.1.trans k_x
  have m_x : x ∈ u12.1 := (hxu12 x m_x).1
  have k_mm : u12.2.1 mm = 12 := (hxu12 mm m_mm).2.1.trans k_mm
  have m_mm : mm ∈ u12.1 := (hxu12 mm m_mm).1
  refine lv_pop hx hb dL_law_519 rfl ?_
  refine lv_goto (tgt := 1769) hx hb dL_law_520 (by decide) ?_
  refine W.widen (k := CC + 389) (n := SS + 3227) (by omega) (by omega) ?_
  exact kk u12 _ _ ls hu m_x k_x m_mm k_mm hR hP hD hS hl
set_option maxHeartbeats 4000000 in
set_option maxRecDepth 100000 in
theorem law_9 {p : Program} {l : Launch} {e : Env} {s : State} {m : MethodId} {below : List Frame} {meth : Method} {c : Code} {b L : Nat} {xs : Nat → Int32} {D : va_G} {k : Nat → ClassId} {tt : TT} (C0 : lw_At p s m meth c b L xs) (hL : L ≤ 3072) (hN : NW s) (hK : va_K D vwCl (TYS k) s) (hE : SX tt (fun q : Nat => s.heap.size ≤ q) s s.heap) {x mm : Nat} {v3 : Int32} {CC SS : Nat} (hv : 0 ≤ v3.toInt ∧ v3.toInt + 6 ≤ L) (hC : CC + 389 ≤ 600000) (hSl : SS + 3227 ≤ 7302250) (kk : ∀ (u : PSt) (H : Heap) (locs : List Loc) (ls : Array Slot), WT u → x ∈ u.1 → u.2.1 x = 11 → mm ∈ u.1 → u.2.1 mm = 12 → REL u x mm → va_P D vwCl (PW k u) H → va_D (fun q : Nat => s.heap.size ≤ q) (PW k u) → va_S (fun q : Nat => s.heap.size ≤ q) s.heap H locs → lv_has ls 4 [(0, .ref b), (1, .ref x), (2, .ref mm), (3, .int v3)] → W p l e room_1 s m #[Value.ref b] below meth c H locs (CC + 389) (SS + 3227) (lw_Z below #[Value.ref b] s) (F0 m 1769 ls [])) {u : PSt} {H : Heap} {locs : List Loc} {ls : Array Slot} (hu : WT u) (m_x : x ∈ u.1) (k_x : u.2.1 x = 11) (m_mm : mm ∈ u.1) (k_mm : u.2.1 mm = 12) (hR : REL u x mm) (hP : va_P D vwCl (PW k u) H) (hD : va_D (fun q : Nat => s.heap.size ≤ q) (PW k u)) (hS : va_S (fun q : Nat => s.heap.size ≤ q) s.heap H locs) (hl : lv_has ls 4 [(0, .ref b), (1, .ref x), (2, .ref mm), (3, .int v3)]) : W p l e room_1 s m #[Value.ref b] below meth c H locs (CC) (SS) (lw_Z below #[Value.ref b] s) (F0 m 523 ls []) := by
  obtain ⟨hx, hb, hr, hml, hown, hts0, hX, hbl, hlocks, hgv⟩ := id C0
  have hA : ∀ q : Nat, s.heap.size ≤ q → (fun q : Nat => s.heap.size ≤ q) q := fun _ h => h
  have hbA : ¬ (fun q : Nat => s.heap.size ≤ q) b := Nat.not_le.mpr hbl
  refine lv_aload_n hx hb dL_law_523 rfl (lv_at hl 1 rfl) ?_
  refine lv_aload_n hx hb dL_law_524 rfl (lv_at hl 0 rfl) ?_
  refine lv_iload_n hx hb dL_law_525 rfl (lv_at hl 3 rfl) ?_
  refine lv_iconst (v := 1) hx hb dL_law_526 (by decide) ?_
  refine lv_iadd hx hb dL_law_527 ?_
  refine lv_topi (fun x1 ex1 => ?_)
  have tx1 : x1.toInt = v3.toInt + 1 := by rw [ex1]; exact i_add (b := 1) (by show -2147483648 ≤ v3.toInt + 1; omega) (by show v3.toInt + 1 ≤ 2147483647; omega)
  refine va_sld hx hb hX hbl hbA hS (vp_in_iff.mpr (by omega)) dL_law_528 ?_
  refine lv_topi (fun y2 ey2 => ?_)
  have htc := fun w h => hts0 w (hwL_X11_bows w h)
  refine wiV (C := RX11) (As := [.int y2]) (rest := []) ⟨hx, hb, hml, hown, htc⟩ (fun sz => t_X11_bows l D k u hu x m_x k_x y2 sz) (cwV 1 htc gS_X11_bows rfl rfl rfl (by decide +kernel) ⟨Nat.le_of_ble_eq_true rfl, Nat.le_of_ble_eq_true rfl⟩) hP hK hD hN hS hA (precv hK hP m_x (cF11 k_x) rfl) rfl hl.1 rfl (Nat.le_of_ble_eq_true rfl) dL_law_529 ⟨by show CC + _ ≤ 600000; omega, by show SS + _ ≤ 7302250; omega⟩ (fun r3 u4 H locs hq hP hD hS => ?_)
  obtain ⟨hu, hxu4, hr3⟩ := hq
  have hR := REL.px m_x k_x m_mm k_mm hR hxu4
  have k_x : u4.2.1 x = 11 := (hxu4 x m_x).2.1.trans k_x
  have m_x : x ∈ u4.1 := (hxu4 x m_x).1
  have k_mm : u4.2.1 mm = 12 := (hxu4 mm m_mm).2.1.trans k_mm
  have m_mm : mm ∈ u4.1 := (hxu4 mm m_mm).1
  refine lv_pop hx hb dL_law_532 rfl ?_
  refine lv_aload_n hx hb dL_law_533 rfl (lv_at hl 2 rfl) ?_
  refine lv_aload_n hx hb dL_law_534 rfl (lv_at hl 0 rfl) ?_
  refine lv_iload_n hx hb dL_law_535 rfl (lv_at hl 3 rfl) ?_
  refine lv_iconst (v := 1) hx hb dL_law_536 (by decide) ?_
  refine lv_iadd hx hb dL_law_537 ?_
  refine lv_topi (fun x5 ex5 => ?_)
  have tx5 : x5.toInt = v3.toInt + 1 := by rw [ex5]; exact i_add (b := 1) (by show -2147483648 ≤ v3.toInt + 1; omega) (by show v3.toInt + 1 ≤ 2147483647; omega)
  refine va_sld hx hb hX hbl hbA hS (vp_in_iff.mpr (by omega)) dL_law_538 ?_
  refine lv_topi (fun y6 ey6 => ?_)
  have qy6 : y6.toInt = y2.toInt := by rw [ey6, ey2, Int32.toInt_inj.mp (show x5.toInt = x1.toInt by omega)]
  have htc := fun w h => hts0 w (hwL_X12_bows w h)
  refine wiV (C := RX12) (As := [.int y6]) (rest := []) ⟨hx, hb, hml, hown, htc⟩ (fun sz => t_X12_bows l D k u4 hu mm m_mm k_mm y6 sz) (cwV 1 htc gS_X12_bows rfl rfl rfl (by decide +kernel) ⟨Nat.le_of_ble_eq_true rfl, Nat.le_of_ble_eq_true rfl⟩) hP hK hD hN hS hA (precv hK hP m_mm (cF12 k_mm) rfl) rfl hl.1 rfl (Nat.le_of_ble_eq_true rfl) dL_law_539 ⟨by show CC + _ ≤ 600000; omega, by show SS + _ ≤ 7302250; omega⟩ (fun r7 u8 H locs hq hP hD hS => ?_)
  obtain ⟨hu, hxu8, hr7⟩ := hq
  have hR := REL.px m_x k_x m_mm k_mm hR hxu8
  have k_x : u8.2.1 x = 11 := (hxu8 x m_x).2.1.trans k_x
  have m_x : x ∈ u8.1 := (hxu8 x m_x).1
  have k_mm : u8.2.1 mm = 12 := (hxu8 mm m_mm).2.1.trans k_mm
  have m_mm : mm ∈ u8.1 := (hxu8 mm m_mm).1
  refine lv_pop hx hb dL_law_542 rfl ?_
  refine lv_goto (tgt := 1769) hx hb dL_law_543 (by decide) ?_
  refine W.widen (k := CC + 389) (n := SS + 3227) (by omega) (by omega) ?_
  exact kk u8 _ _ ls hu m_x k_x m_mm k_mm hR hP hD hS hl
set_option maxHeartbeats 4000000 in
set_option maxRecDepth 100000 in
theorem law_10 {p : Program} {l : Launch} {e : Env} {s : State} {m : MethodId} {below : List Frame} {meth : Method} {c : Code} {b L : Nat} {xs : Nat → Int32} {D : va_G} {k : Nat → ClassId} {tt : TT} (C0 : lw_At p s m meth c b L xs) (hL : L ≤ 3072) (hN : NW s) (hK : va_K D vwCl (TYS k) s) (hE : SX tt (fun q : Nat => s.heap.size ≤ q) s s.heap) {x mm : Nat} {v3 : Int32} {CC SS : Nat} (hv : 0 ≤ v3.toInt ∧ v3.toInt + 6 ≤ L) (hC : CC + 389 ≤ 600000) (hSl : SS + 3227 ≤ 7302250) (kk : ∀ (u : PSt) (H : Heap) (locs : List Loc) (ls : Array Slot), WT u → x ∈ u.1 → u.2.1 x = 11 → mm ∈ u.1 → u.2.1 mm = 12 → REL u x mm → va_P D vwCl (PW k u) H → va_D (fun q : Nat => s.heap.size ≤ q) (PW k u) → va_S (fun q : Nat => s.heap.size ≤ q) s.heap H locs → lv_has ls 4 [(0, .ref b), (1, .ref x), (2, .ref mm), (3, .int v3)] → W p l e room_1 s m #[Value.ref b] below meth c H locs (CC + 389) (SS + 3227) (lw_Z below #[Value.ref b] s) (F0 m 1769 ls [])) {u : PSt} {H : Heap} {locs : List Loc} {ls : Array Slot} (hu : WT u) (m_x : x ∈ u.1) (k_x : u.2.1 x = 11) (m_mm : mm ∈ u.1) (k_mm : u.2.1 mm = 12) (hR : REL u x mm) (hP : va_P D vwCl (PW k u) H) (hD : va_D (fun q : Nat => s.heap.size ≤ q) (PW k u)) (hS : va_S (fun q : Nat => s.heap.size ≤ q) s.heap H locs) (hl : lv_has ls 4 [(0, .ref b), (1, .ref x), (2, .ref mm), (3, .int v3)]) : W p l e room_1 s m #[Value.ref b] below meth c H locs (CC) (SS) (lw_Z below #[Value.ref b] s) (F0 m 546 ls []) := by
  obtain ⟨hx, hb, hr, hml, hown, hts0, hX, hbl, hlocks, hgv⟩ := id C0
  have hA : ∀ q : Nat, s.heap.size ≤ q → (fun q : Nat => s.heap.size ≤ q) q := fun _ h => h
  have hbA : ¬ (fun q : Nat => s.heap.size ≤ q) b := Nat.not_le.mpr hbl
  refine lv_aload_n hx hb dL_law_546 rfl (lv_at hl 1 rfl) ?_
  refine lv_aload_n hx hb dL_law_547 rfl (lv_at hl 0 rfl) ?_
  refine lv_iload_n hx hb dL_law_548 rfl (lv_at hl 3 rfl) ?_
  refine lv_iconst (v := 1) hx hb dL_law_549 (by decide) ?_
  refine lv_iadd hx hb dL_law_550 ?_
  refine lv_topi (fun x1 ex1 => ?_)
  have tx1 : x1.toInt = v3.toInt + 1 := by rw [ex1]; exact i_add (b := 1) (by show -2147483648 ≤ v3.toInt + 1; omega) (by show v3.toInt + 1 ≤ 2147483647; omega)
  refine va_sld hx hb hX hbl hbA hS (vp_in_iff.mpr (by omega)) dL_law_551 ?_
  refine lv_topi (fun y2 ey2 => ?_)
  have htc := fun w h => hts0 w (hwL_X11_press w h)
  refine rvi (C := RX11) (As := [.int y2]) (rest := []) ⟨hx, hb, hml, hown, htc⟩ (t_X11_press l D k u hu x m_x k_x y2) (cwV 1 htc gS_X11_press rfl rfl rfl (by decide +kernel) ⟨Nat.le_of_ble_eq_true rfl, Nat.le_of_ble_eq_true rfl⟩) hP hK (precv hK hP m_x (cF11 k_x) rfl) rfl hl.1 rfl (Nat.le_of_ble_eq_true rfl) dL_law_552 ⟨by show CC ≤ 600000; omega, by show SS ≤ 7302250; omega⟩ (fun r3 hr3 => ?_)
  refine lv_pop hx hb dL_law_555 rfl ?_
  refine lv_aload_n hx hb dL_law_556 rfl (lv_at hl 2 rfl) ?_
  refine lv_aload_n hx hb dL_law_557 rfl (lv_at hl 0 rfl) ?_
  refine lv_iload_n hx hb dL_law_558 rfl (lv_at hl 3 rfl) ?_
  refine lv_iconst (v := 1) hx hb dL_law_559 (by decide) ?_
  refine lv_iadd hx hb dL_law_560 ?_
  refine lv_topi (fun x4 ex4 => ?_)
  have tx4 : x4.toInt = v3.toInt + 1 := by rw [ex4]; exact i_add (b := 1) (by show -2147483648 ≤ v3.toInt + 1; omega) (by show v3.toInt + 1 ≤ 2147483647; omega)
  refine va_sld hx hb hX hbl hbA hS (vp_in_iff.mpr (by omega)) dL_law_561 ?_
  refine lv_topi (fun y5 ey5 => ?_)
  have qy5 : y5.toInt = y2.toInt := by rw [ey5, ey2, Int32.toInt_inj.mp (show x4.toInt = x1.toInt by omega)]
  have htc := fun w h => hts0 w (hwL_X12_press w h)
  refine rvi (C := RX12) (As := [.int y5]) (rest := []) ⟨hx, hb, hml, hown, htc⟩ (t_X12_press l D k u hu mm m_mm k_mm y5) (cwV 1 htc gS_X12_press rfl rfl rfl (by decide +kernel) ⟨Nat.le_of_ble_eq_true rfl, Nat.le_of_ble_eq_true rfl⟩) hP hK (precv hK hP m_mm (cF12 k_mm) rfl) rfl hl.1 rfl (Nat.le_of_ble_eq_true rfl) dL_law_562 ⟨by show CC ≤ 600000; omega, by show SS ≤ 7302250; omega⟩ (fun r6 hr6 => ?_)
  refine lv_pop hx hb dL_law_565 rfl ?_
  refine lv_goto (tgt := 1769) hx hb dL_law_566 (by decide) ?_
  refine W.widen (k := CC + 389) (n := SS + 3227) (by omega) (by omega) ?_
  exact kk u _ _ ls hu m_x k_x m_mm k_mm hR hP hD hS hl
set_option maxHeartbeats 4000000 in
set_option maxRecDepth 100000 in
theorem law_11 {p : Program} {l : Launch} {e : Env} {s : State} {m : MethodId} {below : List Frame} {meth : Method} {c : Code} {b L : Nat} {xs : Nat → Int32} {D : va_G} {k : Nat → ClassId} {tt : TT} (C0 : lw_At p s m meth c b L xs) (hL : L ≤ 3072) (hN : NW s) (hK : va_K D vwCl (TYS k) s) (hE : SX tt (fun q : Nat => s.heap.size ≤ q) s s.heap) {x mm : Nat} {v3 : Int32} {CC SS : Nat} (hv : 0 ≤ v3.toInt ∧ v3.toInt + 6 ≤ L) (hC : CC + 389 ≤ 600000) (hSl : SS + 3227 ≤ 7302250) (kk : ∀ (u : PSt) (H : Heap) (locs : List Loc) (ls : Array Slot), WT u → x ∈ u.1 → u.2.1 x = 11 → mm ∈ u.1 → u.2.1 mm = 12 → REL u x mm → va_P D vwCl (PW k u) H → va_D (fun q : Nat => s.heap.size ≤ q) (PW k u) → va_S (fun q : Nat => s.heap.size ≤ q) s.heap H locs → lv_has ls 4 [(0, .ref b), (1, .ref x), (2, .ref mm), (3, .int v3)] → W p l e room_1 s m #[Value.ref b] below meth c H locs (CC + 389) (SS + 3227) (lw_Z below #[Value.ref b] s) (F0 m 1769 ls [])) {u : PSt} {H : Heap} {locs : List Loc} {ls : Array Slot} (hu : WT u) (m_x : x ∈ u.1) (k_x : u.2.1 x = 11) (m_mm : mm ∈ u.1) (k_mm : u.2.1 mm = 12) (hR : REL u x mm) (hP : va_P D vwCl (PW k u) H) (hD : va_D (fun q : Nat => s.heap.size ≤ q) (PW k u)) (hS : va_S (fun q : Nat => s.heap.size ≤ q) s.heap H locs) (hl : lv_has ls 4 [(0, .ref b), (1, .ref x), (2, .ref mm), (3, .int v3)]) : W p l e room_1 s m #[Value.ref b] below meth c H locs (CC) (SS) (lw_Z below #[Value.ref b] s) (F0 m 569 ls []) := by
  obtain ⟨hx, hb, hr, hml, hown, hts0, hX, hbl, hlocks, hgv⟩ := id C0
  have hA : ∀ q : Nat, s.heap.size ≤ q → (fun q : Nat => s.heap.size ≤ q) q := fun _ h => h
  have hbA : ¬ (fun q : Nat => s.heap.size ≤ q) b := Nat.not_le.mpr hbl
  refine lv_aload_n hx hb dL_law_569 rfl (lv_at hl 1 rfl) ?_
  refine lv_aload_n hx hb dL_law_570 rfl (lv_at hl 0 rfl) ?_
  refine lv_iload_n hx hb dL_law_571 rfl (lv_at hl 3 rfl) ?_
  refine lv_iconst (v := 1) hx hb dL_law_572 (by decide) ?_
  refine lv_iadd hx hb dL_law_573 ?_
  refine lv_topi (fun x1 ex1 => ?_)
  have tx1 : x1.toInt = v3.toInt + 1 := by rw [ex1]; exact i_add (b := 1) (by show -2147483648 ≤ v3.toInt + 1; omega) (by show v3.toInt + 1 ≤ 2147483647; omega)
  refine va_sld hx hb hX hbl hbA hS (vp_in_iff.mpr (by omega)) dL_law_574 ?_
  refine lv_topi (fun y2 ey2 => ?_)
  refine lv_aload_n hx hb dL_law_575 rfl (lv_at hl 0 rfl) ?_
  refine lv_iload_n hx hb dL_law_576 rfl (lv_at hl 3 rfl) ?_
  refine lv_iconst (v := 2) hx hb dL_law_577 (by decide) ?_
  refine lv_iadd hx hb dL_law_578 ?_
  refine lv_topi (fun x3 ex3 => ?_)
  have tx3 : x3.toInt = v3.toInt + 2 := by rw [ex3]; exact i_add (b := 2) (by show -2147483648 ≤ v3.toInt + 2; omega) (by show v3.toInt + 2 ≤ 2147483647; omega)
  refine va_sld hx hb hX hbl hbA hS (vp_in_iff.mpr (by omega)) dL_law_579 ?_
  refine lv_topi (fun y4 ey4 => ?_)
  have htc := fun w h => hts0 w (hwL_X11_wear w h)
  refine wiV (C := RX11) (As := [.int y2, .int y4]) (rest := []) ⟨hx, hb, hml, hown, htc⟩ (fun sz => t_X11_wear l D k u hu x m_x k_x y2 y4 sz) (cwV 2 htc gS_X11_wear rfl rfl rfl (by decide +kernel) ⟨Nat.le_of_ble_eq_true rfl, Nat.le_of_ble_eq_true rfl⟩) hP hK hD hN hS hA (precv hK hP m_x (cF11 k_x) rfl) rfl hl.1 rfl (Nat.le_of_ble_eq_true rfl) dL_law_580 ⟨by show CC + _ ≤ 600000; omega, by show SS + _ ≤ 7302250; omega⟩ (fun r5 u6 H locs hq hP hD hS => ?_)
  obtain ⟨hu, hxu6, hr5⟩ := hq
  have hR := REL.px m_x k_x m_mm k_mm hR hxu6
  have k_x : u6.2.1 x = 11 := (hxu6 x m_x).2.1.trans k_x
  have m_x : x ∈ u6.1 := (hxu6 x m_x).1
  have k_mm : u6.2.1 mm = 12 := (hxu6 mm m_mm).2.1.trans k_mm
  have m_mm : mm ∈ u6.1 := (hxu6 mm m_mm).1
  refine lv_pop hx hb dL_law_583 rfl ?_
  refine lv_aload_n hx hb dL_law_584 rfl (lv_at hl 2 rfl) ?_
  refine lv_aload_n hx hb dL_law_585 rfl (lv_at hl 0 rfl) ?_
  refine lv_iload_n hx hb dL_law_586 rfl (lv_at hl 3 rfl) ?_
  refine lv_iconst (v := 1) hx hb dL_law_587 (by decide) ?_
  refine lv_iadd hx hb dL_law_588 ?_
  refine lv_topi (fun x7 ex7 => ?_)
  have tx7 : x7.toInt = v3.toInt + 1 := by rw [ex7]; exact i_add (b := 1) (by show -2147483648 ≤ v3.toInt + 1; omega) (by show v3.toInt + 1 ≤ 2147483647; omega)
  refine va_sld hx hb hX hbl hbA hS (vp_in_iff.mpr (by omega)) dL_law_589 ?_
  refine lv_topi (fun y8 ey8 => ?_)
  have qy8 : y8.toInt = y2.toInt := by rw [ey8, ey2, Int32.toInt_inj.mp (show x7.toInt = x1.toInt by omega)]
  refine lv_aload_n hx hb dL_law_590 rfl (lv_at hl 0 rfl) ?_
  refine lv_iload_n hx hb dL_law_591 rfl (lv_at hl 3 rfl) ?_
  refine lv_iconst (v := 2) hx hb dL_law_592 (by decide) ?_
  refine lv_iadd hx hb dL_law_593 ?_
  refine lv_topi (fun x9 ex9 => ?_)
  have tx9 : x9.toInt = v3.toInt + 2 := by rw [ex9]; exact i_add (b := 2) (by show -2147483648 ≤ v3.toInt + 2; omega) (by show v3.toInt + 2 ≤ 2147483647; omega)
  refine va_sld hx hb hX hbl hbA hS (vp_in_iff.mpr (by omega)) dL_law_594 ?_
  refine lv_topi (fun y10 ey10 => ?_)
  have qy10 : y10.toInt = y4.toInt := by rw [ey10, ey4, Int32.toInt_inj.mp (show x9.toInt = x3.toInt by omega)]
  have htc := fun w h => hts0 w (hwL_X12_wear w h)
  refine wiV (C := RX12) (As := [.int y8, .int y10]) (rest := []) ⟨hx, hb, hml, hown, htc⟩ (fun sz => t_X12_wear l D k u6 hu mm m_mm k_mm y8 y10 sz) (cwV 2 htc gS_X12_wear rfl rfl rfl (by decide +kernel) ⟨Nat.le_of_ble_eq_true rfl, Nat.le_of_ble_eq_true rfl⟩) hP hK hD hN hS hA (precv hK hP m_mm (cF12 k_mm) rfl) rfl hl.1 rfl (Nat.le_of_ble_eq_true rfl) dL_law_595 ⟨by show CC + _ ≤ 600000; omega, by show SS + _ ≤ 7302250; omega⟩ (fun r11 u12 H locs hq hP hD hS => ?_)
  obtain ⟨hu, hxu12, hr11⟩ := hq
  have hR := REL.px m_x k_x m_mm k_mm hR hxu12
  have k_x : u12.2.1 x = 11 := (hxu12 x m_x).2.1.trans k_x
  have m_x : x ∈ u12.1 := (hxu12 x m_x).1
  have k_mm : u12.2.1 mm = 12 := (hxu12 mm m_mm).2.1.trans k_mm
  have m_mm : mm ∈ u12.1 := (hxu12 mm m_mm).1
  refine lv_pop hx hb dL_law_598 rfl ?_
  refine lv_goto (tgt := 1769) hx hb dL_law_599 (by decide) ?_
  refine W.widen (k := CC + 389) (n := SS + 3227) (by omega) (by omega) ?_
  exact kk u12 _ _ ls hu m_x k_x m_mm k_mm hR hP hD hS hl
