set_option maxHeartbeats 4000000 in
set_option maxRecDepth 100000 in
theorem law_36 {p : Program} {l : Launch} {e : Env} {s : State} {m : MethodId} {below : List Frame} {meth : Method} {c : Code} {b L : Nat} {xs : Nat → Int32} {D : va_G} {k : Nat → ClassId} {tt : TT} (C0 : lw_At p s m meth c b L xs) (hL : L ≤ 3072) (hN : NW s) (hK : va_K D vwCl (TYS k) s) (hE : SX tt (fun q : Nat => s.heap.size ≤ q) s s.heap) {x mm : Nat} {v3 : Int32} {CC SS : Nat} (hv : 0 ≤ v3.toInt ∧ v3.toInt + 6 ≤ L) (hC : CC + 389 ≤ 600000) (hSl : SS + 3227 ≤ 7302250) (kk : ∀ (u : PSt) (H : Heap) (locs : List Loc) (ls : Array Slot), WT u → x ∈ u.1 → u.2.1 x = 11 → mm ∈ u.1 → u.2.1 mm = 12 → REL u x mm → va_P D vwCl (PW k u) H → va_D (fun q : Nat => s.heap.size ≤ q) (PW k u) → va_S (fun q : Nat => s.heap.size ≤ q) s.heap H locs → lv_has ls 4 [(0, .ref b), (1, .ref x), (2, .ref mm), (3, .int v3)] → W p l e room_1 s m #[Value.ref b] below meth c H locs (CC + 389) (SS + 3227) (lw_Z below #[Value.ref b] s) (F0 m 1769 ls [])) {u : PSt} {H : Heap} {locs : List Loc} {ls : Array Slot} (hu : WT u) (m_x : x ∈ u.1) (k_x : u.2.1 x = 11) (m_mm : mm ∈ u.1) (k_mm : u.2.1 mm = 12) (hR : REL u x mm) (hP : va_P D vwCl (PW k u) H) (hD : va_D (fun q : Nat => s.heap.size ≤ q) (PW k u)) (hS : va_S (fun q : Nat => s.heap.size ≤ q) s.heap H locs) (hl : lv_has ls 4 [(0, .ref b), (1, .ref x), (2, .ref mm), (3, .int v3)]) : W p l e room_1 s m #[Value.ref b] below meth c H locs (CC) (SS) (lw_Z below #[Value.ref b] s) (F0 m 1360 ls []) := by
  obtain ⟨hx, hb, hr, hml, hown, hts0, hX, hbl, hlocks, hgv⟩ := id C0
  have hA : ∀ q : Nat, s.heap.size ≤ q → (fun q : Nat => s.heap.size ≤ q) q := fun _ h => h
  have hbA : ¬ (fun q : Nat => s.heap.size ≤ q) b := Nat.not_le.mpr hbl
  refine lv_aload_n hx hb dL_law_1360 rfl (lv_at hl 1 rfl) ?_
  refine lv_aload_n hx hb dL_law_1361 rfl (lv_at hl 0 rfl) ?_
  refine lv_iload_n hx hb dL_law_1362 rfl (lv_at hl 3 rfl) ?_
  refine lv_iconst (v := 1) hx hb dL_law_1363 (by decide) ?_
  refine lv_iadd hx hb dL_law_1364 ?_
  refine lv_topi (fun x1 ex1 => ?_)
  have tx1 : x1.toInt = v3.toInt + 1 := by rw [ex1]; exact i_add (b := 1) (by show -2147483648 ≤ v3.toInt + 1; omega) (by show v3.toInt + 1 ≤ 2147483647; omega)
  refine va_sld hx hb hX hbl hbA hS (vp_in_iff.mpr (by omega)) dL_law_1365 ?_
  refine lv_topi (fun y2 ey2 => ?_)
  refine lv_aload_n hx hb dL_law_1366 rfl (lv_at hl 0 rfl) ?_
  refine lv_iload_n hx hb dL_law_1367 rfl (lv_at hl 3 rfl) ?_
  refine lv_iconst (v := 2) hx hb dL_law_1368 (by decide) ?_
  refine lv_iadd hx hb dL_law_1369 ?_
  refine lv_topi (fun x3 ex3 => ?_)
  have tx3 : x3.toInt = v3.toInt + 2 := by rw [ex3]; exact i_add (b := 2) (by show -2147483648 ≤ v3.toInt + 2; omega) (by show v3.toInt + 2 ≤ 2147483647; omega)
  refine va_sld hx hb hX hbl hbA hS (vp_in_iff.mpr (by omega)) dL_law_1370 ?_
  refine lv_topi (fun y4 ey4 => ?_)
  have htc := fun w h => hts0 w (hwL_X11_who w h)
  refine rvi (C := RX11) (As := [.int y2, .int y4]) (rest := []) ⟨hx, hb, hml, hown, htc⟩ (t_X11_who l D k u hu x m_x k_x y2 y4) (cwV 2 htc gS_X11_who rfl rfl rfl (by decide +kernel) ⟨Nat.le_of_ble_eq_true rfl, Nat.le_of_ble_eq_true rfl⟩) hP hK (precv hK hP m_x (cF11 k_x) rfl) rfl hl.1 rfl (Nat.le_of_ble_eq_true rfl) dL_law_1371 ⟨by show CC ≤ 600000; omega, by show SS ≤ 7302250; omega⟩ (fun r5 hr5 => ?_)
  refine lv_pop hx hb dL_law_1374 rfl ?_
  refine lv_aload_n hx hb dL_law_1375 rfl (lv_at hl 2 rfl) ?_
  refine lv_aload_n hx hb dL_law_1376 rfl (lv_at hl 0 rfl) ?_
  refine lv_iload_n hx hb dL_law_1377 rfl (lv_at hl 3 rfl) ?_
  refine lv_iconst (v := 1) hx hb dL_law_1378 (by decide) ?_
  refine lv_iadd hx hb dL_law_1379 ?_
  refine lv_topi (fun x6 ex6 => ?_)
  have tx6 : x6.toInt = v3.toInt + 1 := by rw [ex6]; exact i_add (b := 1) (by show -2147483648 ≤ v3.toInt + 1; omega) (by show v3.toInt + 1 ≤ 2147483647; omega)
  refine va_sld hx hb hX hbl hbA hS (vp_in_iff.mpr (by omega)) dL_law_1380 ?_
  refine lv_topi (fun y7 ey7 => ?_)
  have qy7 : y7.toInt = y2.toInt := by rw [ey7, ey2, Int32.toInt_inj.mp (show x6.toInt = x1.toInt by omega)]
  refine lv_aload_n hx hb dL_law_1381 rfl (lv_at hl 0 rfl) ?_
  refine lv_iload_n hx hb dL_law_1382 rfl (lv_at hl 3 rfl) ?_
  refine lv_iconst (v := 2) hx hb dL_law_1383 (by decide) ?_
  refine lv_iadd hx hb dL_law_1384 ?_
  refine lv_topi (fun x8 ex8 => ?_)
  have tx8 : x8.toInt = v3.toInt + 2 := by rw [ex8]; exact i_add (b := 2) (by show -2147483648 ≤ v3.toInt + 2; omega) (by show v3.toInt + 2 ≤ 2147483647; omega)
  refine va_sld hx hb hX hbl hbA hS (vp_in_iff.mpr (by omega)) dL_law_1385 ?_
  refine lv_topi (fun y9 ey9 => ?_)
  have qy9 : y9.toInt = y4.toInt := by rw [ey9, ey4, Int32.toInt_inj.mp (show x8.toInt = x3.toInt by omega)]
  have htc := fun w h => hts0 w (hwL_X12_who w h)
  refine rvi (C := RX12) (As := [.int y7, .int y9]) (rest := []) ⟨hx, hb, hml, hown, htc⟩ (t_X12_who l D k u hu mm m_mm k_mm y7 y9) (cwV 2 htc gS_X12_who rfl rfl rfl (by decide +kernel) ⟨Nat.le_of_ble_eq_true rfl, Nat.le_of_ble_eq_true rfl⟩) hP hK (precv hK hP m_mm (cF12 k_mm) rfl) rfl hl.1 rfl (Nat.le_of_ble_eq_true rfl) dL_law_1386 ⟨by show CC ≤ 600000; omega, by show SS ≤ 7302250; omega⟩ (fun r10 hr10 => ?_)
  refine lv_pop hx hb dL_law_1389 rfl ?_
  refine lv_goto (tgt := 1769) hx hb dL_law_1390 (by decide) ?_
  refine W.widen (k := CC + 389) (n := SS + 3227) (by omega) (by omega) ?_
  exact kk u _ _ ls hu m_x k_x m_mm k_mm hR hP hD hS hl
set_option maxHeartbeats 4000000 in
set_option maxRecDepth 100000 in
theorem law_37 {p : Program} {l : Launch} {e : Env} {s : State} {m : MethodId} {below : List Frame} {meth : Method} {c : Code} {b L : Nat} {xs : Nat → Int32} {D : va_G} {k : Nat → ClassId} {tt : TT} (C0 : lw_At p s m meth c b L xs) (hL : L ≤ 3072) (hN : NW s) (hK : va_K D vwCl (TYS k) s) (hE : SX tt (fun q : Nat => s.heap.size ≤ q) s s.heap) {x mm : Nat} {v3 : Int32} {CC SS : Nat} (hv : 0 ≤ v3.toInt ∧ v3.toInt + 6 ≤ L) (hC : CC + 389 ≤ 600000) (hSl : SS + 3227 ≤ 7302250) (kk : ∀ (u : PSt) (H : Heap) (locs : List Loc) (ls : Array Slot), WT u → x ∈ u.1 → u.2.1 x = 11 → mm ∈ u.1 → u.2.1 mm = 12 → REL u x mm → va_P D vwCl (PW k u) H → va_D (fun q : Nat => s.heap.size ≤ q) (PW k u) → va_S (fun q : Nat => s.heap.size ≤ q) s.heap H locs → lv_has ls 4 [(0, .ref b), (1, .ref x), (2, .ref mm), (3, .int v3)] → W p l e room_1 s m #[Value.ref b] below meth c H locs (CC + 389) (SS + 3227) (lw_Z below #[Value.ref b] s) (F0 m 1769 ls [])) {u : PSt} {H : Heap} {locs : List Loc} {ls : Array Slot} (hu : WT u) (m_x : x ∈ u.1) (k_x : u.2.1 x = 11) (m_mm : mm ∈ u.1) (k_mm : u.2.1 mm = 12) (hR : REL u x mm) (hP : va_P D vwCl (PW k u) H) (hD : va_D (fun q : Nat => s.heap.size ≤ q) (PW k u)) (hS : va_S (fun q : Nat => s.heap.size ≤ q) s.heap H locs) (hl : lv_has ls 4 [(0, .ref b), (1, .ref x), (2, .ref mm), (3, .int v3)]) : W p l e room_1 s m #[Value.ref b] below meth c H locs (CC) (SS) (lw_Z below #[Value.ref b] s) (F0 m 1393 ls []) := by
  obtain ⟨hx, hb, hr, hml, hown, hts0, hX, hbl, hlocks, hgv⟩ := id C0
  have hA : ∀ q : Nat, s.heap.size ≤ q → (fun q : Nat => s.heap.size ≤ q) q := fun _ h => h
  have hbA : ¬ (fun q : Nat => s.heap.size ≤ q) b := Nat.not_le.mpr hbl
  refine lv_aload_n hx hb dL_law_1393 rfl (lv_at hl 1 rfl) ?_
  refine lv_aload_n hx hb dL_law_1394 rfl (lv_at hl 0 rfl) ?_
  refine lv_iload_n hx hb dL_law_1395 rfl (lv_at hl 3 rfl) ?_
  refine lv_iconst (v := 1) hx hb dL_law_1396 (by decide) ?_
  refine lv_iadd hx hb dL_law_1397 ?_
  refine lv_topi (fun x1 ex1 => ?_)
  have tx1 : x1.toInt = v3.toInt + 1 := by rw [ex1]; exact i_add (b := 1) (by show -2147483648 ≤ v3.toInt + 1; omega) (by show v3.toInt + 1 ≤ 2147483647; omega)
  refine va_sld hx hb hX hbl hbA hS (vp_in_iff.mpr (by omega)) dL_law_1398 ?_
  refine lv_topi (fun y2 ey2 => ?_)
  have htc := fun w h => hts0 w (hwL_X11_rules w h)
  refine wiV (C := RX11) (As := [.int y2]) (rest := []) ⟨hx, hb, hml, hown, htc⟩ (fun sz => t_X11_rules l D k u hu x m_x k_x y2 sz) (cwV 1 htc gS_X11_rules rfl rfl rfl (by decide +kernel) ⟨Nat.le_of_ble_eq_true rfl, Nat.le_of_ble_eq_true rfl⟩) hP hK hD hN hS hA (precv hK hP m_x (cF11 k_x) rfl) rfl hl.1 rfl (Nat.le_of_ble_eq_true rfl) dL_law_1399 ⟨by show CC + _ ≤ 600000; omega, by show SS + _ ≤ 7302250; omega⟩ (fun r3 u4 H locs hq hP hD hS => ?_)
  obtain ⟨hu, hxu4, hr3⟩ := hq
  have hR := REL.px m_x k_x m_mm k_mm hR hxu4
  have k_x : u4.2.1 x = 11 := (hxu4 x m_x).2.1.trans k_x
  have m_x : x ∈ u4.1 := (hxu4 x m_x).1
  have k_mm : u4.2.1 mm = 12 := (hxu4 mm m_mm).2.1.trans k_mm
  have m_mm : mm ∈ u4.1 := (hxu4 mm m_mm).1
  refine lv_pop hx hb dL_law_1402 rfl ?_
  refine lv_aload_n hx hb dL_law_1403 rfl (lv_at hl 2 rfl) ?_
  refine lv_aload_n hx hb dL_law_1404 rfl (lv_at hl 0 rfl) ?_
  refine lv_iload_n hx hb dL_law_1405 rfl (lv_at hl 3 rfl) ?_
  refine lv_iconst (v := 1) hx hb dL_law_1406 (by decide) ?_
  refine lv_iadd hx hb dL_law_1407 ?_
  refine lv_topi (fun x5 ex5 => ?_)
  have tx5 : x5.toInt = v3.toInt + 1 := by rw [ex5]; exact i_add (b := 1) (by show -2147483648 ≤ v3.toInt + 1; omega) (by show v3.toInt + 1 ≤ 2147483647; omega)
  refine va_sld hx hb hX hbl hbA hS (vp_in_iff.mpr (by omega)) dL_law_1408 ?_
  refine lv_topi (fun y6 ey6 => ?_)
  have qy6 : y6.toInt = y2.toInt := by rw [ey6, ey2, Int32.toInt_inj.mp (show x5.toInt = x1.toInt by omega)]
  have htc := fun w h => hts0 w (hwL_X12_rules w h)
  refine rvi (C := RX12) (As := [.int y6]) (rest := []) ⟨hx, hb, hml, hown, htc⟩ (t_X12_rules l D k u4 hu mm m_mm k_mm y6) (cwV 1 htc gS_X12_rules rfl rfl rfl (by decide +kernel) ⟨Nat.le_of_ble_eq_true rfl, Nat.le_of_ble_eq_true rfl⟩) hP hK (precv hK hP m_mm (cF12 k_mm) rfl) rfl hl.1 rfl (Nat.le_of_ble_eq_true rfl) dL_law_1409 ⟨by show CC ≤ 600000; omega, by show SS ≤ 7302250; omega⟩ (fun r7 hr7 => ?_)
  refine lv_pop hx hb dL_law_1412 rfl ?_
  refine lv_goto (tgt := 1769) hx hb dL_law_1413 (by decide) ?_
  refine W.widen (k := CC + 389) (n := SS + 3227) (by omega) (by omega) ?_
  exact kk u4 _ _ ls hu m_x k_x m_mm k_mm hR hP hD hS hl
set_option maxHeartbeats 4000000 in
set_option maxRecDepth 100000 in
theorem law_38 {p : Program} {l : Launch} {e : Env} {s : State} {m : MethodId} {below : List Frame} {meth : Method} {c : Code} {b L : Nat} {xs : Nat → Int32} {D : va_G} {k : Nat → ClassId} {tt : TT} (C0 : lw_At p s m meth c b L xs) (hL : L ≤ 3072) (hN : NW s) (hK : va_K D vwCl (TYS k) s) (hE : SX tt (fun q : Nat => s.heap.size ≤ q) s s.heap) {x mm : Nat} {v3 : Int32} {CC SS : Nat} (hv : 0 ≤ v3.toInt ∧ v3.toInt + 6 ≤ L) (hC : CC + 389 ≤ 600000) (hSl : SS + 3227 ≤ 7302250) (kk : ∀ (u : PSt) (H : Heap) (locs : List Loc) (ls : Array Slot), WT u → x ∈ u.1 → u.2.1 x = 11 → mm ∈ u.1 → u.2.1 mm = 12 → REL u x mm → va_P D vwCl (PW k u) H → va_D (fun q : Nat => s.heap.size ≤ q) (PW k u) → va_S (fun q : Nat => s.heap.size ≤ q) s.heap H locs → lv_has ls 4 [(0, .ref b), (1, .ref x), (2, .ref mm), (3, .int v3)] → W p l e room_1 s m #[Value.ref b] below meth c H locs (CC + 389) (SS + 3227) (lw_Z below #[Value.ref b] s) (F0 m 1769 ls [])) {u : PSt} {H : Heap} {locs : List Loc} {ls : Array Slot} (hu : WT u) (m_x : x ∈ u.1) (k_x : u.2.1 x = 11) (m_mm : mm ∈ u.1) (k_mm : u.2.1 mm = 12) (hR : REL u x mm) (hP : va_P D vwCl (PW k u) H) (hD : va_D (fun q : Nat => s.heap.size ≤ q) (PW k u)) (hS : va_S (fun q : Nat => s.heap.size ≤ q) s.heap H locs) (hl : lv_has ls 4 [(0, .ref b), (1, .ref x), (2, .ref mm), (3, .int v3)]) : W p l e room_1 s m #[Value.ref b] below meth c H locs (CC) (SS) (lw_Z below #[Value.ref b] s) (F0 m 1416 ls []) := by
  obtain ⟨hx, hb, hr, hml, hown, hts0, hX, hbl, hlocks, hgv⟩ := id C0
  have hA : ∀ q : Nat, s.heap.size ≤ q → (fun q : Nat => s.heap.size ≤ q) q := fun _ h => h
  have hbA : ¬ (fun q : Nat => s.heap.size ≤ q) b := Nat.not_le.mpr hbl
  refine lv_aload_n hx hb dL_law_1416 rfl (lv_at hl 1 rfl) ?_
  refine lv_aload_n hx hb dL_law_1417 rfl (lv_at hl 0 rfl) ?_
  refine lv_iload_n hx hb dL_law_1418 rfl (lv_at hl 3 rfl) ?_
  refine lv_iconst (v := 1) hx hb dL_law_1419 (by decide) ?_
  refine lv_iadd hx hb dL_law_1420 ?_
  refine lv_topi (fun x1 ex1 => ?_)
  have tx1 : x1.toInt = v3.toInt + 1 := by rw [ex1]; exact i_add (b := 1) (by show -2147483648 ≤ v3.toInt + 1; omega) (by show v3.toInt + 1 ≤ 2147483647; omega)
  refine va_sld hx hb hX hbl hbA hS (vp_in_iff.mpr (by omega)) dL_law_1421 ?_
  refine lv_topi (fun y2 ey2 => ?_)
  refine lv_aload_n hx hb dL_law_1422 rfl (lv_at hl 0 rfl) ?_
  refine lv_iload_n hx hb dL_law_1423 rfl (lv_at hl 3 rfl) ?_
  refine lv_iconst (v := 2) hx hb dL_law_1424 (by decide) ?_
  refine lv_iadd hx hb dL_law_1425 ?_
  refine lv_topi (fun x3 ex3 => ?_)
  have tx3 : x3.toInt = v3.toInt + 2 := by rw [ex3]; exact i_add (b := 2) (by show -2147483648 ≤ v3.toInt + 2; omega) (by show v3.toInt + 2 ≤ 2147483647; omega)
  refine va_sld hx hb hX hbl hbA hS (vp_in_iff.mpr (by omega)) dL_law_1426 ?_
  refine lv_topi (fun y4 ey4 => ?_)
  refine lv_if_eq (tgt := 1434) hx hb dL_law_1427 (by decide) (fun c5 => ?_) (fun c5 => ?_)
  · refine lv_iconst (v := 0) hx hb dL_law_1434 (by decide) ?_
    have htc := fun w h => hts0 w (hwL_X11_held w h)
    refine rvi (C := RX11) (As := [.int y2, .int 0]) (rest := []) ⟨hx, hb, hml, hown, htc⟩ (t_X11_held l D k u hu x m_x k_x y2 0 (by decide)) (cwV 2 htc gS_X11_held rfl rfl rfl (by decide +kernel) ⟨Nat.le_of_ble_eq_true rfl, Nat.le_of_ble_eq_true rfl⟩) hP hK (precv hK hP m_x (cF11 k_x) rfl) rfl hl.1 rfl (Nat.le_of_ble_eq_true rfl) dL_law_1435 ⟨by show CC ≤ 600000; omega, by show SS ≤ 7302250; omega⟩ (fun r6 hr6 => ?_)
    refine lv_pop hx hb dL_law_1438 rfl ?_
    refine lv_aload_n hx hb dL_law_1439 rfl (lv_at hl 2 rfl) ?_
    refine lv_aload_n hx hb dL_law_1440 rfl (lv_at hl 0 rfl) ?_
    refine lv_iload_n hx hb dL_law_1441 rfl (lv_at hl 3 rfl) ?_
    refine lv_iconst (v := 1) hx hb dL_law_1442 (by decide) ?_
    refine lv_iadd hx hb dL_law_1443 ?_
    refine lv_topi (fun x7 ex7 => ?_)
    have tx7 : x7.toInt = v3.toInt + 1 := by rw [ex7]; exact i_add (b := 1) (by show -2147483648 ≤ v3.toInt + 1; omega) (by show v3.toInt + 1 ≤ 2147483647; omega)
    refine va_sld hx hb hX hbl hbA hS (vp_in_iff.mpr (by omega)) dL_law_1444 ?_
    refine lv_topi (fun y8 ey8 => ?_)
    have qy8 : y8.toInt = y2.toInt := by rw [ey8, ey2, Int32.toInt_inj.mp (show x7.toInt = x1.toInt by omega)]
    refine lv_aload_n hx hb dL_law_1445 rfl (lv_at hl 0 rfl) ?_
    refine lv_iload_n hx hb dL_law_1446 rfl (lv_at hl 3 rfl) ?_
    refine lv_iconst (v := 2) hx hb dL_law_1447 (by decide) ?_
    refine lv_iadd hx hb dL_law_1448 ?_
    refine lv_topi (fun x9 ex9 => ?_)
    have tx9 : x9.toInt = v3.toInt + 2 := by rw [ex9]; exact i_add (b := 2) (by show -2147483648 ≤ v3.toInt + 2; omega) (by show v3.toInt + 2 ≤ 2147483647; omega)
    refine va_sld hx hb hX hbl hbA hS (vp_in_iff.mpr (by omega)) dL_law_1449 ?_
    refine lv_topi (fun y10 ey10 => ?_)
    have qy10 : y10.toInt = y4.toInt := by rw [ey10, ey4, Int32.toInt_inj.mp (show x9.toInt = x3.toInt by omega)]
    refine lv_if_eq (tgt := 1457) hx hb dL_law_1450 (by decide) (fun c11 => ?_) (fun c11 => ?_)
    · refine lv_iconst (v := 0) hx hb dL_law_1457 (by decide) ?_
      have htc := fun w h => hts0 w (hwL_X12_held w h)
      refine rvi (C := RX12) (As := [.int y8, .int 0]) (rest := []) ⟨hx, hb, hml, hown, htc⟩ (t_X12_held l D k u hu mm m_mm k_mm y8 0 (by decide)) (cwV 2 htc gS_X12_held rfl rfl rfl (by decide +kernel) ⟨Nat.le_of_ble_eq_true rfl, Nat.le_of_ble_eq_true rfl⟩) hP hK (precv hK hP m_mm (cF12 k_mm) rfl) rfl hl.1 rfl (Nat.le_of_ble_eq_true rfl) dL_law_1458 ⟨by show CC ≤ 600000; omega, by show SS ≤ 7302250; omega⟩ (fun r12 hr12 => ?_)
      refine lv_pop hx hb dL_law_1461 rfl ?_
      refine lv_goto (tgt := 1769) hx hb dL_law_1462 (by decide) ?_
      refine W.widen (k := CC + 389) (n := SS + 3227) (by omega) (by omega) ?_
      exact kk u _ _ ls hu m_x k_x m_mm k_mm hR hP hD hS hl
    · refine lv_iconst (v := 1) hx hb dL_law_1453 (by decide) ?_
      refine lv_goto (tgt := 1458) hx hb dL_law_1454 (by decide) ?_
      have htc := fun w h => hts0 w (hwL_X12_held w h)
      refine rvi (C := RX12) (As := [.int y8, .int 1]) (rest := []) ⟨hx, hb, hml, hown, htc⟩ (t_X12_held l D k u hu mm m_mm k_mm y8 1 (by decide)) (cwV 2 htc gS_X12_held rfl rfl rfl (by decide +kernel) ⟨Nat.le_of_ble_eq_true rfl, Nat.le_of_ble_eq_true rfl⟩) hP hK (precv hK hP m_mm (cF12 k_mm) rfl) rfl hl.1 rfl (Nat.le_of_ble_eq_true rfl) dL_law_1458 ⟨by show CC ≤ 600000; omega, by show SS ≤ 7302250; omega⟩ (fun r13 hr13 => ?_)
      refine lv_pop hx hb dL_law_1461 rfl ?_
      refine lv_goto (tgt := 1769) hx hb dL_law_1462 (by decide) ?_
      refine W.widen (k := CC + 389) (n := SS + 3227) (by omega) (by omega) ?_
      exact kk u _ _ ls hu m_x k_x m_mm k_mm hR hP hD hS hl
  · refine lv_iconst (v := 1) hx hb dL_law_1430 (by decide) ?_
    refine lv_goto (tgt := 1435) hx hb dL_law_1431 (by decide) ?_
    have htc := fun w h => hts0 w (hwL_X11_held w h)
    refine rvi (C := RX11) (As := [.int y2, .int 1]) (rest := []) ⟨hx, hb, hml, hown, htc⟩ (t_X11_held l D k u hu x m_x k_x y2 1 (by decide)) (cwV 2 htc gS_X11_held rfl rfl rfl (by decide +kernel) ⟨Nat.le_of_ble_eq_true rfl, Nat.le_of_ble_eq_true rfl⟩) hP hK (precv hK hP m_x (cF11 k_x) rfl) rfl hl.1 rfl (Nat.le_of_ble_eq_true rfl) dL_law_1435 ⟨by show CC ≤ 600000; omega, by show SS ≤ 7302250; omega⟩ (fun r14 hr14 => ?_)
    refine lv_pop hx hb dL_law_1438 rfl ?_
    refine lv_aload_n hx hb dL_law_1439 rfl (lv_at hl 2 rfl) ?_
    refine lv_aload_n hx hb dL_law_1440 rfl (lv_at hl 0 rfl) ?_
    refine lv_iload_n hx hb dL_law_1441 rfl (lv_at hl 3 rfl) ?_
    refine lv_iconst (v := 1) hx hb dL_law_1442 (by decide) ?_
    refine lv_iadd hx hb dL_law_1443 ?_
    refine lv_topi (fun x15 ex15 => ?_)
    have tx15 : x15.toInt = v3.toInt + 1 := by rw [ex15]; exact i_add (b := 1) (by show -2147483648 ≤ v3.toInt + 1; omega) (by show v3.toInt + 1 ≤ 2147483647; omega)
    refine va_sld hx hb hX hbl hbA hS (vp_in_iff.mpr (by omega)) dL_law_1444 ?_
    refine lv_topi (fun y16 ey16 => ?_)
    have qy16 : y16.toInt = y2.toInt := by rw [ey16, ey2, Int32.toInt_inj.mp (show x15.toInt = x1.toInt by omega)]
    refine lv_aload_n hx hb dL_law_1445 rfl (lv_at hl 0 rfl) ?_
    refine lv_iload_n hx hb dL_law_1446 rfl (lv_at hl 3 rfl) ?_
    refine lv_iconst (v := 2) hx hb dL_law_1447 (by decide) ?_
    refine lv_iadd hx hb dL_law_1448 ?_
    refine lv_topi (fun x17 ex17 => ?_)
    have tx17 : x17.toInt = v3.toInt + 2 := by rw [ex17]; exact i_add (b := 2) (by show -2147483648 ≤ v3.toInt + 2; omega) (by show v3.toInt + 2 ≤ 2147483647; omega)
    refine va_sld hx hb hX hbl hbA hS (vp_in_iff.mpr (by omega)) dL_law_1449 ?_
    refine lv_topi (fun y18 ey18 => ?_)
    have qy18 : y18.toInt = y4.toInt := by rw [ey18, ey4, Int32.toInt_inj.mp (show x17.toInt = x3.toInt by omega)]
    refine lv_if_eq (tgt := 1457) hx hb dL_law_1450 (by decide) (fun c19 => ?_) (fun c19 => ?_)
    · refine lv_iconst (v := 0) hx hb dL_law_1457 (by decide) ?_
      have htc := fun w h => hts0 w (hwL_X12_held w h)
      refine rvi (C := RX12) (As := [.int y16, .int 0]) (rest := []) ⟨hx, hb, hml, hown, htc⟩ (t_X12_held l D k u hu mm m_mm k_mm y16 0 (by decide)) (cwV 2 htc gS_X12_held rfl rfl rfl (by decide +kernel) ⟨Nat.le_of_ble_eq_true rfl, Nat.le_of_ble_eq_true rfl⟩) hP hK (precv hK hP m_mm (cF12 k_mm) rfl) rfl hl.1 rfl (Nat.le_of_ble_eq_true rfl) dL_law_1458 ⟨by show CC ≤ 600000; omega, by show SS ≤ 7302250; omega⟩ (fun r20 hr20 => ?_)
      refine lv_pop hx hb dL_law_1461 rfl ?_
      refine lv_goto (tgt := 1769) hx hb dL_law_1462 (by decide) ?_
      refine W.widen (k := CC + 389) (n := SS + 3227) (by omega) (by omega) ?_
      exact kk u _ _ ls hu m_x k_x m_mm k_mm hR hP hD hS hl
    · refine lv_iconst (v := 1) hx hb dL_law_1453 (by decide) ?_
      refine lv_goto (tgt := 1458) hx hb dL_law_1454 (by decide) ?_
      have htc := fun w h => hts0 w (hwL_X12_held w h)
      refine rvi (C := RX12) (As := [.int y16, .int 1]) (rest := []) ⟨hx, hb, hml, hown, htc⟩ (t_X12_held l D k u hu mm m_mm k_mm y16 1 (by decide)) (cwV 2 htc gS_X12_held rfl rfl rfl (by decide +kernel) ⟨Nat.le_of_ble_eq_true rfl, Nat.le_of_ble_eq_true rfl⟩) hP hK (precv hK hP m_mm (cF12 k_mm) rfl) rfl hl.1 rfl (Nat.le_of_ble_eq_true rfl) dL_law_1458 ⟨by show CC ≤ 600000; omega, by show SS ≤ 7302250; omega⟩ (fun r21 hr21 => ?_)
      refine lv_pop hx hb dL_law_1461 rfl ?_
      refine lv_goto (tgt := 1769) hx hb dL_law_1462 (by decide) ?_
      refine W.widen (k := CC + 389) (n := SS + 3227) (by omega) (by omega) ?_
      exact kk u _ _ ls hu m_x k_x m_mm k_mm hR hP hD hS hl
set_option maxHeartbeats 4000000 in
set_option maxRecDepth 100000 in
theorem law_39 {p : Program} {l : Launch} {e : Env} {s : State} {m : MethodId} {below : List Frame} {meth : Method} {c : Code} {b L : Nat} {xs : Nat → Int32} {D : va_G} {k : Nat → ClassId} {tt : TT} (C0 : lw_At p s m meth c b L xs) (hL : L ≤ 3072) (hN : NW s) (hK : va_K D vwCl (TYS k) s) (hE : SX tt (fun q : Nat => s.heap.size ≤ q) s s.heap) {x mm : Nat} {v3 : Int32} {CC SS : Nat} (hv : 0 ≤ v3.toInt ∧ v3.toInt + 6 ≤ L) (hC : CC + 389 ≤ 600000) (hSl : SS + 3227 ≤ 7302250) (kk : ∀ (u : PSt) (H : Heap) (locs : List Loc) (ls : Array Slot), WT u → x ∈ u.1 → u.2.1 x = 11 → mm ∈ u.1 → u.2.1 mm = 12 → REL u x mm → va_P D vwCl (PW k u) H → va_D (fun q : Nat => s.heap.size ≤ q) (PW k u) → va_S (fun q : Nat => s.heap.size ≤ q) s.heap H locs → lv_has ls 4 [(0, .ref b), (1, .ref x), (2, .ref mm), (3, .int v3)] → W p l e room_1 s m #[Value.ref b] below meth c H locs (CC + 389) (SS + 3227) (lw_Z below #[Value.ref b] s) (F0 m 1769 ls [])) {u : PSt} {H : Heap} {locs : List Loc} {ls : Array Slot} (hu : WT u) (m_x : x ∈ u.1) (k_x : u.2.1 x = 11) (m_mm : mm ∈ u.1) (k_mm : u.2.1 mm = 12) (hR : REL u x mm) (hP : va_P D vwCl (PW k u) H) (hD : va_D (fun q : Nat => s.heap.size ≤ q) (PW k u)) (hS : va_S (fun q : Nat => s.heap.size ≤ q) s.heap H locs) (hl : lv_has ls 4 [(0, .ref b), (1, .ref x), (2, .ref mm), (3, .int v3)]) : W p l e room_1 s m #[Value.ref b] below meth c H locs (CC) (SS) (lw_Z below #[Value.ref b] s) (F0 m 1465 ls []) := by
  obtain ⟨hx, hb, hr, hml, hown, hts0, hX, hbl, hlocks, hgv⟩ := id C0
  have hA : ∀ q : Nat, s.heap.size ≤ q → (fun q : Nat => s.heap.size ≤ q) q := fun _ h => h
  have hbA : ¬ (fun q : Nat => s.heap.size ≤ q) b := Nat.not_le.mpr hbl
  refine lv_aload_n hx hb dL_law_1465 rfl (lv_at hl 1 rfl) ?_
  refine lv_aload_n hx hb dL_law_1466 rfl (lv_at hl 0 rfl) ?_
  refine lv_iload_n hx hb dL_law_1467 rfl (lv_at hl 3 rfl) ?_
  refine lv_iconst (v := 1) hx hb dL_law_1468 (by decide) ?_
  refine lv_iadd hx hb dL_law_1469 ?_
  refine lv_topi (fun x1 ex1 => ?_)
  have tx1 : x1.toInt = v3.toInt + 1 := by rw [ex1]; exact i_add (b := 1) (by show -2147483648 ≤ v3.toInt + 1; omega) (by show v3.toInt + 1 ≤ 2147483647; omega)
  refine va_sld hx hb hX hbl hbA hS (vp_in_iff.mpr (by omega)) dL_law_1470 ?_
  refine lv_topi (fun y2 ey2 => ?_)
  have htc := fun w h => hts0 w (hwL_X11_count w h)
  refine rvi (C := RX11) (As := [.int y2]) (rest := []) ⟨hx, hb, hml, hown, htc⟩ (t_X11_count l D k u hu x m_x k_x y2) (cwV 1 htc gS_X11_count rfl rfl rfl (by decide +kernel) ⟨Nat.le_of_ble_eq_true rfl, Nat.le_of_ble_eq_true rfl⟩) hP hK (precv hK hP m_x (cF11 k_x) rfl) rfl hl.1 rfl (Nat.le_of_ble_eq_true rfl) dL_law_1471 ⟨by show CC ≤ 600000; omega, by show SS ≤ 7302250; omega⟩ (fun r3 hr3 => ?_)
  refine lv_pop hx hb dL_law_1474 rfl ?_
  refine lv_aload_n hx hb dL_law_1475 rfl (lv_at hl 2 rfl) ?_
  refine lv_aload_n hx hb dL_law_1476 rfl (lv_at hl 0 rfl) ?_
  refine lv_iload_n hx hb dL_law_1477 rfl (lv_at hl 3 rfl) ?_
  refine lv_iconst (v := 1) hx hb dL_law_1478 (by decide) ?_
  refine lv_iadd hx hb dL_law_1479 ?_
  refine lv_topi (fun x4 ex4 => ?_)
  have tx4 : x4.toInt = v3.toInt + 1 := by rw [ex4]; exact i_add (b := 1) (by show -2147483648 ≤ v3.toInt + 1; omega) (by show v3.toInt + 1 ≤ 2147483647; omega)
  refine va_sld hx hb hX hbl hbA hS (vp_in_iff.mpr (by omega)) dL_law_1480 ?_
  refine lv_topi (fun y5 ey5 => ?_)
  have qy5 : y5.toInt = y2.toInt := by rw [ey5, ey2, Int32.toInt_inj.mp (show x4.toInt = x1.toInt by omega)]
  have htc := fun w h => hts0 w (hwL_X12_count w h)
  refine rvi (C := RX12) (As := [.int y5]) (rest := []) ⟨hx, hb, hml, hown, htc⟩ (t_X12_count l D k u hu mm m_mm k_mm y5) (cwV 1 htc gS_X12_count rfl rfl rfl (by decide +kernel) ⟨Nat.le_of_ble_eq_true rfl, Nat.le_of_ble_eq_true rfl⟩) hP hK (precv hK hP m_mm (cF12 k_mm) rfl) rfl hl.1 rfl (Nat.le_of_ble_eq_true rfl) dL_law_1481 ⟨by show CC ≤ 600000; omega, by show SS ≤ 7302250; omega⟩ (fun r6 hr6 => ?_)
  refine lv_pop hx hb dL_law_1484 rfl ?_
  refine lv_goto (tgt := 1769) hx hb dL_law_1485 (by decide) ?_
  refine W.widen (k := CC + 389) (n := SS + 3227) (by omega) (by omega) ?_
  exact kk u _ _ ls hu m_x k_x m_mm k_mm hR hP hD hS hl
set_option maxHeartbeats 4000000 in
set_option maxRecDepth 100000 in
theorem law_40 {p : Program} {l : Launch} {e : Env} {s : State} {m : MethodId} {below : List Frame} {meth : Method} {c : Code} {b L : Nat} {xs : Nat → Int32} {D : va_G} {k : Nat → ClassId} {tt : TT} (C0 : lw_At p s m meth c b L xs) (hL : L ≤ 3072) (hN : NW s) (hK : va_K D vwCl (TYS k) s) (hE : SX tt (fun q : Nat => s.heap.size ≤ q) s s.heap) {x mm : Nat} {v3 : Int32} {CC SS : Nat} (hv : 0 ≤ v3.toInt ∧ v3.toInt + 6 ≤ L) (hC : CC + 389 ≤ 600000) (hSl : SS + 3227 ≤ 7302250) (kk : ∀ (u : PSt) (H : Heap) (locs : List Loc) (ls : Array Slot), WT u → x ∈ u.1 → u.2.1 x = 11 → mm ∈ u.1 → u.2.1 mm = 12 → REL u x mm → va_P D vwCl (PW k u) H → va_D (fun q : Nat => s.heap.size ≤ q) (PW k u) → va_S (fun q : Nat => s.heap.size ≤ q) s.heap H locs → lv_has ls 4 [(0, .ref b), (1, .ref x), (2, .ref mm), (3, .int v3)] → W p l e room_1 s m #[Value.ref b] below meth c H locs (CC + 389) (SS + 3227) (lw_Z below #[Value.ref b] s) (F0 m 1769 ls [])) {u : PSt} {H : Heap} {locs : List Loc} {ls : Array Slot} (hu : WT u) (m_x : x ∈ u.1) (k_x : u.2.1 x = 11) (m_mm : mm ∈ u.1) (k_mm : u.2.1 mm = 12) (hR : REL u x mm) (hP : va_P D vwCl (PW k u) H) (hD : va_D (fun q : Nat => s.heap.size ≤ q) (PW k u)) (hS : va_S (fun q : Nat => s.heap.size ≤ q) s.heap H locs) (hl : lv_has ls 4 [(0, .ref b), (1, .ref x), (2, .ref mm), (3, .int v3)]) : W p l e room_1 s m #[Value.ref b] below meth c H locs (CC) (SS) (lw_Z below #[Value.ref b] s) (F0 m 1488 ls []) := by
  obtain ⟨hx, hb, hr, hml, hown, hts0, hX, hbl, hlocks, hgv⟩ := id C0
  have hA : ∀ q : Nat, s.heap.size ≤ q → (fun q : Nat => s.heap.size ≤ q) q := fun _ h => h
  have hbA : ¬ (fun q : Nat => s.heap.size ≤ q) b := Nat.not_le.mpr hbl
  refine lv_aload_n hx hb dL_law_1488 rfl (lv_at hl 1 rfl) ?_
  refine lv_aload_n hx hb dL_law_1489 rfl (lv_at hl 0 rfl) ?_
  refine lv_iload_n hx hb dL_law_1490 rfl (lv_at hl 3 rfl) ?_
  refine lv_iconst (v := 1) hx hb dL_law_1491 (by decide) ?_
  refine lv_iadd hx hb dL_law_1492 ?_
  refine lv_topi (fun x1 ex1 => ?_)
  have tx1 : x1.toInt = v3.toInt + 1 := by rw [ex1]; exact i_add (b := 1) (by show -2147483648 ≤ v3.toInt + 1; omega) (by show v3.toInt + 1 ≤ 2147483647; omega)
  refine va_sld hx hb hX hbl hbA hS (vp_in_iff.mpr (by omega)) dL_law_1493 ?_
  refine lv_topi (fun y2 ey2 => ?_)
  have htc := fun w h => hts0 w (hwL_X11_judge w h)
  refine rvi (C := RX11) (As := [.int y2]) (rest := []) ⟨hx, hb, hml, hown, htc⟩ (t_X11_judge l D k u hu x m_x k_x y2) (cwV 1 htc gS_X11_judge rfl rfl rfl (by decide +kernel) ⟨Nat.le_of_ble_eq_true rfl, Nat.le_of_ble_eq_true rfl⟩) hP hK (precv hK hP m_x (cF11 k_x) rfl) rfl hl.1 rfl (Nat.le_of_ble_eq_true rfl) dL_law_1494 ⟨by show CC ≤ 600000; omega, by show SS ≤ 7302250; omega⟩ (fun r3 hr3 => ?_)
  refine lv_pop hx hb dL_law_1497 rfl ?_
  refine lv_aload_n hx hb dL_law_1498 rfl (lv_at hl 2 rfl) ?_
  refine lv_aload_n hx hb dL_law_1499 rfl (lv_at hl 0 rfl) ?_
  refine lv_iload_n hx hb dL_law_1500 rfl (lv_at hl 3 rfl) ?_
  refine lv_iconst (v := 1) hx hb dL_law_1501 (by decide) ?_
  refine lv_iadd hx hb dL_law_1502 ?_
  refine lv_topi (fun x4 ex4 => ?_)
  have tx4 : x4.toInt = v3.toInt + 1 := by rw [ex4]; exact i_add (b := 1) (by show -2147483648 ≤ v3.toInt + 1; omega) (by show v3.toInt + 1 ≤ 2147483647; omega)
  refine va_sld hx hb hX hbl hbA hS (vp_in_iff.mpr (by omega)) dL_law_1503 ?_
  refine lv_topi (fun y5 ey5 => ?_)
  have qy5 : y5.toInt = y2.toInt := by rw [ey5, ey2, Int32.toInt_inj.mp (show x4.toInt = x1.toInt by omega)]
  have htc := fun w h => hts0 w (hwL_X12_judge w h)
  refine rvi (C := RX12) (As := [.int y5]) (rest := []) ⟨hx, hb, hml, hown, htc⟩ (t_X12_judge l D k u hu mm m_mm k_mm y5) (cwV 1 htc gS_X12_judge rfl rfl rfl (by decide +kernel) ⟨Nat.le_of_ble_eq_true rfl, Nat.le_of_ble_eq_true rfl⟩) hP hK (precv hK hP m_mm (cF12 k_mm) rfl) rfl hl.1 rfl (Nat.le_of_ble_eq_true rfl) dL_law_1504 ⟨by show CC ≤ 600000; omega, by show SS ≤ 7302250; omega⟩ (fun r6 hr6 => ?_)
  refine lv_pop hx hb dL_law_1507 rfl ?_
  refine lv_goto (tgt := 1769) hx hb dL_law_1508 (by decide) ?_
  refine W.widen (k := CC + 389) (n := SS + 3227) (by omega) (by omega) ?_
  exact kk u _ _ ls hu m_x k_x m_mm k_mm hR hP hD hS hl
set_option maxHeartbeats 4000000 in
set_option maxRecDepth 100000 in
theorem law_41 {p : Program} {l : Launch} {e : Env} {s : State} {m : MethodId} {below : List Frame} {meth : Method} {c : Code} {b L : Nat} {xs : Nat → Int32} {D : va_G} {k : Nat → ClassId} {tt : TT} (C0 : lw_At p s m meth c b L xs) (hL : L ≤ 3072) (hN : NW s) (hK : va_K D vwCl (TYS k) s) (hE : SX tt (fun q : Nat => s.heap.size ≤ q) s s.heap) {x mm : Nat} {v3 : Int32} {CC SS : Nat} (hv : 0 ≤ v3.toInt ∧ v3.toInt + 6 ≤ L) (hC : CC + 389 ≤ 600000) (hSl : SS + 3227 ≤ 7302250) (kk : ∀ (u : PSt) (H : Heap) (locs : List Loc) (ls : Array Slot), WT u → x ∈ u.1 → u.2.1 x = 11 → mm ∈ u.1 → u.2.1 mm = 12 → REL u x mm → va_P D vwCl (PW k u) H → va_D (fun q : Nat => s.heap.size ≤ q) (PW k u) → va_S (fun q : Nat => s.heap.size ≤ q) s.heap H locs → lv_has ls 4 [(0, .ref b), (1, .ref x), (2, .ref mm), (3, .int v3)] → W p l e room_1 s m #[Value.ref b] below meth c H locs (CC + 389) (SS + 3227) (lw_Z below #[Value.ref b] s) (F0 m 1769 ls [])) {u : PSt} {H : Heap} {locs : List Loc} {ls : Array Slot} (hu : WT u) (m_x : x ∈ u.1) (k_x : u.2.1 x = 11) (m_mm : mm ∈ u.1) (k_mm : u.2.1 mm = 12) (hR : REL u x mm) (hP : va_P D vwCl (PW k u) H) (hD : va_D (fun q : Nat => s.heap.size ≤ q) (PW k u)) (hS : va_S (fun q : Nat => s.heap.size ≤ q) s.heap H locs) (hl : lv_has ls 4 [(0, .ref b), (1, .ref x), (2, .ref mm), (3, .int v3)]) : W p l e room_1 s m #[Value.ref b] below meth c H locs (CC) (SS) (lw_Z below #[Value.ref b] s) (F0 m 1511 ls []) := by
  obtain ⟨hx, hb, hr, hml, hown, hts0, hX, hbl, hlocks, hgv⟩ := id C0
  have hA : ∀ q : Nat, s.heap.size ≤ q → (fun q : Nat => s.heap.size ≤ q) q := fun _ h => h
  have hbA : ¬ (fun q : Nat => s.heap.size ≤ q) b := Nat.not_le.mpr hbl
  refine lv_aload_n hx hb dL_law_1511 rfl (lv_at hl 1 rfl) ?_
  refine lv_aload_n hx hb dL_law_1512 rfl (lv_at hl 0 rfl) ?_
  refine lv_iload_n hx hb dL_law_1513 rfl (lv_at hl 3 rfl) ?_
  refine lv_iconst (v := 1) hx hb dL_law_1514 (by decide) ?_
  refine lv_iadd hx hb dL_law_1515 ?_
  refine lv_topi (fun x1 ex1 => ?_)
  have tx1 : x1.toInt = v3.toInt + 1 := by rw [ex1]; exact i_add (b := 1) (by show -2147483648 ≤ v3.toInt + 1; omega) (by show v3.toInt + 1 ≤ 2147483647; omega)
  refine va_sld hx hb hX hbl hbA hS (vp_in_iff.mpr (by omega)) dL_law_1516 ?_
  refine lv_topi (fun y2 ey2 => ?_)
  refine lv_aload_n hx hb dL_law_1517 rfl (lv_at hl 0 rfl) ?_
  refine lv_iload_n hx hb dL_law_1518 rfl (lv_at hl 3 rfl) ?_
  refine lv_iconst (v := 2) hx hb dL_law_1519 (by decide) ?_
  refine lv_iadd hx hb dL_law_1520 ?_
  refine lv_topi (fun x3 ex3 => ?_)
  have tx3 : x3.toInt = v3.toInt + 2 := by rw [ex3]; exact i_add (b := 2) (by show -2147483648 ≤ v3.toInt + 2; omega) (by show v3.toInt + 2 ≤ 2147483647; omega)
  refine va_sld hx hb hX hbl hbA hS (vp_in_iff.mpr (by omega)) dL_law_1521 ?_
  refine lv_topi (fun y4 ey4 => ?_)
  have htc := fun w h => hts0 w (hwL_X11_other w h)
  refine wiV (C := RX11) (As := [.int y2, .int y4]) (rest := []) ⟨hx, hb, hml, hown, htc⟩ (fun sz => t_X11_other l D k u hu x m_x k_x y2 y4 sz) (cwV 2 htc gS_X11_other rfl rfl rfl (by decide +kernel) ⟨Nat.le_of_ble_eq_true rfl, Nat.le_of_ble_eq_true rfl⟩) hP hK hD hN hS hA (precv hK hP m_x (cF11 k_x) rfl) rfl hl.1 rfl (Nat.le_of_ble_eq_true rfl) dL_law_1522 ⟨by show CC + _ ≤ 600000; omega, by show SS + _ ≤ 7302250; omega⟩ (fun r5 u6 H locs hq hP hD hS => ?_)
  obtain ⟨hu, hxu6, hr5⟩ := hq
  have hR := REL.px m_x k_x m_mm k_mm hR hxu6
  have k_x : u6.2.1 x = 11 := (hxu6 x m_x).2.1.trans k_x
  have m_x : x ∈ u6.1 := (hxu6 x m_x).1
  have k_mm : u6.2.1 mm = 12 := (hxu6 mm m_mm).2.1.trans k_mm
  have m_mm : mm ∈ u6.1 := (hxu6 mm m_mm).1
  refine lv_pop hx hb dL_law_1525 rfl ?_
  refine lv_aload_n hx hb dL_law_1526 rfl (lv_at hl 2 rfl) ?_
  refine lv_aload_n hx hb dL_law_1527 rfl (lv_at hl 0 rfl) ?_
  refine lv_iload_n hx hb dL_law_1528 rfl (lv_at hl 3 rfl) ?_
  refine lv_iconst (v := 1) hx hb dL_law_1529 (by decide) ?_
  refine lv_iadd hx hb dL_law_1530 ?_
  refine lv_topi (fun x7 ex7 => ?_)
  have tx7 : x7.toInt = v3.toInt + 1 := by rw [ex7]; exact i_add (b := 1) (by show -2147483648 ≤ v3.toInt + 1; omega) (by show v3.toInt + 1 ≤ 2147483647; omega)
  refine va_sld hx hb hX hbl hbA hS (vp_in_iff.mpr (by omega)) dL_law_1531 ?_
  refine lv_topi (fun y8 ey8 => ?_)
  have qy8 : y8.toInt = y2.toInt := by rw [ey8, ey2, Int32.toInt_inj.mp (show x7.toInt = x1.toInt by omega)]
  refine lv_aload_n hx hb dL_law_1532 rfl (lv_at hl 0 rfl) ?_
  refine lv_iload_n hx hb dL_law_1533 rfl (lv_at hl 3 rfl) ?_
  refine lv_iconst (v := 2) hx hb dL_law_1534 (by decide) ?_
  refine lv_iadd hx hb dL_law_1535 ?_
  refine lv_topi (fun x9 ex9 => ?_)
  have tx9 : x9.toInt = v3.toInt + 2 := by rw [ex9]; exact i_add (b := 2) (by show -2147483648 ≤ v3.toInt + 2; omega) (by show v3.toInt + 2 ≤ 2147483647; omega)
  refine va_sld hx hb hX hbl hbA hS (vp_in_iff.mpr (by omega)) dL_law_1536 ?_
  refine lv_topi (fun y10 ey10 => ?_)
  have qy10 : y10.toInt = y4.toInt := by rw [ey10, ey4, Int32.toInt_inj.mp (show x9.toInt = x3.toInt by omega)]
  have htc := fun w h => hts0 w (hwL_X12_other w h)
  refine wiV (C := RX12) (As := [.int y8, .int y10]) (rest := []) ⟨hx, hb, hml, hown, htc⟩ (fun sz => t_X12_other l D k u6 hu mm m_mm k_mm y8 y10 sz) (cwV 2 htc gS_X12_other rfl rfl rfl (by decide +kernel) ⟨Nat.le_of_ble_eq_true rfl, Nat.le_of_ble_eq_true rfl⟩) hP hK hD hN hS hA (precv hK hP m_mm (cF12 k_mm) rfl) rfl hl.1 rfl (Nat.le_of_ble_eq_true rfl) dL_law_1537 ⟨by show CC + _ ≤ 600000; omega, by show SS + _ ≤ 7302250; omega⟩ (fun r11 u12 H locs hq hP hD hS => ?_)
  obtain ⟨hu, hxu12, hr11⟩ := hq
  have hR := REL.px m_x k_x m_mm k_mm hR hxu12
  have k_x : u12.2.1 x = 11 := (hxu12 x m_x).2.1.trans k_x
  have m_x : x ∈ u12.1 := (hxu12 x m_x).1
  have k_mm : u12.2.1 mm = 12 := (hxu12 mm m_mm).2.1.trans k_mm
  have m_mm : mm ∈ u12.1 := (hxu12 mm m_mm).1
  refine lv_pop hx hb dL_law_1540 rfl ?_
  refine lv_goto (tgt := 1769) hx hb dL_law_1541 (by decide) ?_
  refine W.widen (k := CC + 389) (n := SS + 3227) (by omega) (by omega) ?_
  exact kk u12 _ _ ls hu m_x k_x m_mm k_mm hR hP hD hS hl
set_option maxHeartbeats 4000000 in
set_option maxRecDepth 100000 in
theorem law_42 {p : Program} {l : Launch} {e : Env} {s : State} {m : MethodId} {below : List Frame} {meth : Method} {c : Code} {b L : Nat} {xs : Nat → Int32} {D : va_G} {k : Nat → ClassId} {tt : TT} (C0 : lw_At p s m meth c b L xs) (hL : L ≤ 3072) (hN : NW s) (hK : va_K D vwCl (TYS k) s) (hE : SX tt (fun q : Nat => s.heap.size ≤ q) s s.heap) {x mm : Nat} {v3 : Int32} {CC SS : Nat} (hv : 0 ≤ v3.toInt ∧ v3.toInt + 6 ≤ L) (hC : CC + 389 ≤ 600000) (hSl : SS + 3227 ≤ 7302250) (kk : ∀ (u : PSt) (H : Heap) (locs : List Loc) (ls : Array Slot), WT u → x ∈ u.1 → u.2.1 x = 11 → mm ∈ u.1 → u.2.1 mm = 12 → REL u x mm → va_P D vwCl (PW k u) H → va_D (fun q : Nat => s.heap.size ≤ q) (PW k u) → va_S (fun q : Nat => s.heap.size ≤ q) s.heap H locs → lv_has ls 4 [(0, .ref b), (1, .ref x), (2, .ref mm), (3, .int v3)] → W p l e room_1 s m #[Value.ref b] below meth c H locs (CC + 389) (SS + 3227) (lw_Z below #[Value.ref b] s) (F0 m 1769 ls [])) {u : PSt} {H : Heap} {locs : List Loc} {ls : Array Slot} (hu : WT u) (m_x : x ∈ u.1) (k_x : u.2.1 x = 11) (m_mm : mm ∈ u.1) (k_mm : u.2.1 mm = 12) (hR : REL u x mm) (hP : va_P D vwCl (PW k u) H) (hD : va_D (fun q : Nat => s.heap.size ≤ q) (PW k u)) (hS : va_S (fun q : Nat => s.heap.size ≤ q) s.heap H locs) (hl : lv_has ls 4 [(0, .ref b), (1, .ref x), (2, .ref mm), (3, .int v3)]) : W p l e room_1 s m #[Value.ref b] below meth c H locs (CC) (SS) (lw_Z below #[Value.ref b] s) (F0 m 1544 ls []) := by
  obtain ⟨hx, hb, hr, hml, hown, hts0, hX, hbl, hlocks, hgv⟩ := id C0
  have hA : ∀ q : Nat, s.heap.size ≤ q → (fun q : Nat => s.heap.size ≤ q) q := fun _ h => h
  have hbA : ¬ (fun q : Nat => s.heap.size ≤ q) b := Nat.not_le.mpr hbl
  refine lv_aload_n hx hb dL_law_1544 rfl (lv_at hl 1 rfl) ?_
  refine lv_aload_n hx hb dL_law_1545 rfl (lv_at hl 0 rfl) ?_
  refine lv_iload_n hx hb dL_law_1546 rfl (lv_at hl 3 rfl) ?_
  refine lv_iconst (v := 1) hx hb dL_law_1547 (by decide) ?_
  refine lv_iadd hx hb dL_law_1548 ?_
  refine lv_topi (fun x1 ex1 => ?_)
  have tx1 : x1.toInt = v3.toInt + 1 := by rw [ex1]; exact i_add (b := 1) (by show -2147483648 ≤ v3.toInt + 1; omega) (by show v3.toInt + 1 ≤ 2147483647; omega)
  refine va_sld hx hb hX hbl hbA hS (vp_in_iff.mpr (by omega)) dL_law_1549 ?_
  refine lv_topi (fun y2 ey2 => ?_)
  have htc := fun w h => hts0 w (hwL_X11_keep w h)
  refine wiV (C := RX11) (As := [.int y2]) (rest := []) ⟨hx, hb, hml, hown, htc⟩ (fun sz => t2_X11_keep l D k u hu x m_x k_x y2 sz) (cwV 1 htc gS_X11_keep rfl rfl rfl (by decide +kernel) ⟨Nat.le_of_ble_eq_true rfl, Nat.le_of_ble_eq_true rfl⟩) hP hK hD hN hS hA (precv hK hP m_x (cF11 k_x) rfl) rfl hl.1 rfl (Nat.le_of_ble_eq_true rfl) dL_law_1550 ⟨by show CC + _ ≤ 600000; omega, by show SS + _ ≤ 7302250; omega⟩ (fun r3 u4 H locs hq hP hD hS => ?_)
  obtain ⟨hu, hxu4, hr3⟩ := hq
  have m_x0 := m_x
  have k_x0 := k_x
  have m_mm0 := m_mm
  have k_mm0 := k_mm
  have k_x : u4.2.1 x = 11 := (hxu4 x m_x).2.trans k_x
  have m_x : x ∈ u4.1 := (hxu4 x m_x).1
  have k_mm : u4.2.1 mm = 12 := (hxu4 mm m_mm).2.trans k_mm
  have m_mm : mm ∈ u4.1 := (hxu4 mm m_mm).1
  refine lv_pop hx hb dL_law_1553 rfl ?_
  refine lv_aload_n hx hb dL_law_1554 rfl (lv_at hl 2 rfl) ?_
  refine lv_aload_n hx hb dL_law_1555 rfl (lv_at hl 0 rfl) ?_
  refine lv_iload_n hx hb dL_law_1556 rfl (lv_at hl 3 rfl) ?_
  refine lv_iconst (v := 1) hx hb dL_law_1557 (by decide) ?_
  refine lv_iadd hx hb dL_law_1558 ?_
  refine lv_topi (fun x5 ex5 => ?_)
  have tx5 : x5.toInt = v3.toInt + 1 := by rw [ex5]; exact i_add (b := 1) (by show -2147483648 ≤ v3.toInt + 1; omega) (by show v3.toInt + 1 ≤ 2147483647; omega)
  refine va_sld hx hb hX hbl hbA hS (vp_in_iff.mpr (by omega)) dL_law_1559 ?_
  refine lv_topi (fun y6 ey6 => ?_)
  have qy6 : y6.toInt = y2.toInt := by rw [ey6, ey2, Int32.toInt_inj.mp (show x5.toInt = x1.toInt by omega)]
  have htc := fun w h => hts0 w (hwL_X12_keep w h)
  refine wiV (C := RX12) (As := [.int y6]) (rest := []) ⟨hx, hb, hml, hown, htc⟩ (fun sz => t2_X12_keep l D k u4 hu mm m_mm k_mm y6 sz) (cwV 1 htc gS_X12_keep rfl rfl rfl (by decide +kernel) ⟨Nat.le_of_ble_eq_true rfl, Nat.le_of_ble_eq_true rfl⟩) hP hK hD hN hS hA (precv hK hP m_mm (cF12 k_mm) rfl) rfl hl.1 rfl (Nat.le_of_ble_eq_true rfl) dL_law_1560 ⟨by show CC + _ ≤ 600000; omega, by show SS + _ ≤ 7302250; omega⟩ (fun r7 u8 H locs hq hP hD hS => ?_)
  obtain ⟨hu, hxu8, hr7⟩ := hq
  obtain ⟨hcmp, hR⟩ := REL_keep m_x0 k_x0 m_mm0 k_mm0 hR qy6 hr3 hr7
  have k_x : u8.2.1 x = 11 := (hxu8 x m_x).2.1.trans k_x
  have m_x : x ∈ u8.1 := (hxu8 x m_x).1
  have k_mm : u8.2.1 mm = 12 := (hxu8 mm m_mm).2.1.trans k_mm
  have m_mm : mm ∈ u8.1 := (hxu8 mm m_mm).1
  refine lv_pop hx hb dL_law_1563 rfl ?_
  refine lv_goto (tgt := 1769) hx hb dL_law_1564 (by decide) ?_
  refine W.widen (k := CC + 389) (n := SS + 3227) (by omega) (by omega) ?_
  exact kk u8 _ _ ls hu m_x k_x m_mm k_mm hR hP hD hS hl
set_option maxHeartbeats 4000000 in
set_option maxRecDepth 100000 in
theorem law_43 {p : Program} {l : Launch} {e : Env} {s : State} {m : MethodId} {below : List Frame} {meth : Method} {c : Code} {b L : Nat} {xs : Nat → Int32} {D : va_G} {k : Nat → ClassId} {tt : TT} (C0 : lw_At p s m meth c b L xs) (hL : L ≤ 3072) (hN : NW s) (hK : va_K D vwCl (TYS k) s) (hE : SX tt (fun q : Nat => s.heap.size ≤ q) s s.heap) {x mm : Nat} {v3 : Int32} {CC SS : Nat} (hv : 0 ≤ v3.toInt ∧ v3.toInt + 6 ≤ L) (hC : CC + 389 ≤ 600000) (hSl : SS + 3227 ≤ 7302250) (kk : ∀ (u : PSt) (H : Heap) (locs : List Loc) (ls : Array Slot), WT u → x ∈ u.1 → u.2.1 x = 11 → mm ∈ u.1 → u.2.1 mm = 12 → REL u x mm → va_P D vwCl (PW k u) H → va_D (fun q : Nat => s.heap.size ≤ q) (PW k u) → va_S (fun q : Nat => s.heap.size ≤ q) s.heap H locs → lv_has ls 4 [(0, .ref b), (1, .ref x), (2, .ref mm), (3, .int v3)] → W p l e room_1 s m #[Value.ref b] below meth c H locs (CC + 389) (SS + 3227) (lw_Z below #[Value.ref b] s) (F0 m 1769 ls [])) {u : PSt} {H : Heap} {locs : List Loc} {ls : Array Slot} (hu : WT u) (m_x : x ∈ u.1) (k_x : u.2.1 x = 11) (m_mm : mm ∈ u.1) (k_mm : u.2.1 mm = 12) (hR : REL u x mm) (hP : va_P D vwCl (PW k u) H) (hD : va_D (fun q : Nat => s.heap.size ≤ q) (PW k u)) (hS : va_S (fun q : Nat => s.heap.size ≤ q) s.heap H locs) (hl : lv_has ls 4 [(0, .ref b), (1, .ref x), (2, .ref mm), (3, .int v3)]) : W p l e room_1 s m #[Value.ref b] below meth c H locs (CC) (SS) (lw_Z below #[Value.ref b] s) (F0 m 1567 ls []) := by
  obtain ⟨hx, hb, hr, hml, hown, hts0, hX, hbl, hlocks, hgv⟩ := id C0
  have hA : ∀ q : Nat, s.heap.size ≤ q → (fun q : Nat => s.heap.size ≤ q) q := fun _ h => h
  have hbA : ¬ (fun q : Nat => s.heap.size ≤ q) b := Nat.not_le.mpr hbl
  refine lv_aload_n hx hb dL_law_1567 rfl (lv_at hl 1 rfl) ?_
  refine lv_aload_n hx hb dL_law_1568 rfl (lv_at hl 0 rfl) ?_
  refine lv_iload_n hx hb dL_law_1569 rfl (lv_at hl 3 rfl) ?_
  refine lv_iconst (v := 1) hx hb dL_law_1570 (by decide) ?_
  refine lv_iadd hx hb dL_law_1571 ?_
  refine lv_topi (fun x1 ex1 => ?_)
  have tx1 : x1.toInt = v3.toInt + 1 := by rw [ex1]; exact i_add (b := 1) (by show -2147483648 ≤ v3.toInt + 1; omega) (by show v3.toInt + 1 ≤ 2147483647; omega)
  refine va_sld hx hb hX hbl hbA hS (vp_in_iff.mpr (by omega)) dL_law_1572 ?_
  refine lv_topi (fun y2 ey2 => ?_)
  have htc := fun w h => hts0 w (hwL_X11_back w h)
  refine wiV (C := RX11) (As := [.int y2]) (rest := []) ⟨hx, hb, hml, hown, htc⟩ (fun sz => t2_X11_back l D k u hu x m_x k_x y2 sz) (cwV 1 htc gS_X11_back rfl rfl rfl (by decide +kernel) ⟨Nat.le_of_ble_eq_true rfl, Nat.le_of_ble_eq_true rfl⟩) hP hK hD hN hS hA (precv hK hP m_x (cF11 k_x) rfl) rfl hl.1 rfl (Nat.le_of_ble_eq_true rfl) dL_law_1573 ⟨by show CC + _ ≤ 600000; omega, by show SS + _ ≤ 7302250; omega⟩ (fun r3 u4 H locs hq hP hD hS => ?_)
  obtain ⟨hu, hxu4, hr3⟩ := hq
  have m_x0 := m_x
  have k_x0 := k_x
  have m_mm0 := m_mm
  have k_mm0 := k_mm
  have k_x : u4.2.1 x = 11 := (hxu4 x m_x).2.1.trans k_x
  have m_x : x ∈ u4.1 := (hxu4 x m_x).1
  have k_mm : u4.2.1 mm = 12 := (hxu4 mm m_mm).2.1.trans k_mm
  have m_mm : mm ∈ u4.1 := (hxu4 mm m_mm).1
  refine lv_pop hx hb dL_law_1576 rfl ?_
  refine lv_aload_n hx hb dL_law_1577 rfl (lv_at hl 2 rfl) ?_
  refine lv_aload_n hx hb dL_law_1578 rfl (lv_at hl 0 rfl) ?_
  refine lv_iload_n hx hb dL_law_1579 rfl (lv_at hl 3 rfl) ?_
  refine lv_iconst (v := 1) hx hb dL_law_1580 (by decide) ?_
  refine lv_iadd hx hb dL_law_1581 ?_
  refine lv_topi (fun x5 ex5 => ?_)
  have tx5 : x5.toInt = v3.toInt + 1 := by rw [ex5]; exact i_add (b := 1) (by show -2147483648 ≤ v3.toInt + 1; omega) (by show v3.toInt + 1 ≤ 2147483647; omega)
  refine va_sld hx hb hX hbl hbA hS (vp_in_iff.mpr (by omega)) dL_law_1582 ?_
  refine lv_topi (fun y6 ey6 => ?_)
  have qy6 : y6.toInt = y2.toInt := by rw [ey6, ey2, Int32.toInt_inj.mp (show x5.toInt = x1.toInt by omega)]
  have htc := fun w h => hts0 w (hwL_X12_back w h)
  refine wiV (C := RX12) (As := [.int y6]) (rest := []) ⟨hx, hb, hml, hown, htc⟩ (fun sz => t2_X12_back l D k u4 hu mm m_mm k_mm y6 sz) (cwV 1 htc gS_X12_back rfl rfl rfl (by decide +kernel) ⟨Nat.le_of_ble_eq_true rfl, Nat.le_of_ble_eq_true rfl⟩) hP hK hD hN hS hA (precv hK hP m_mm (cF12 k_mm) rfl) rfl hl.1 rfl (Nat.le_of_ble_eq_true rfl) dL_law_1583 ⟨by show CC + _ ≤ 600000; omega, by show SS + _ ≤ 7302250; omega⟩ (fun r7 u8 H locs hq hP hD hS => ?_)
  obtain ⟨hu, hxu8, hr7⟩ := hq
  obtain ⟨hcmp, hR⟩ := REL_back m_x0 k_x0 m_mm0 k_mm0 hR qy6 hxu4 hr3 hxu8 hr7
  have k_x : u8.2.1 x = 11 := (hxu8 x m_x).2.1.trans k_x
  have m_x : x ∈ u8.1 := (hxu8 x m_x).1
  have k_mm : u8.2.1 mm = 12 := (hxu8 mm m_mm).2.1.trans k_mm
  have m_mm : mm ∈ u8.1 := (hxu8 mm m_mm).1
  refine lv_pop hx hb dL_law_1586 rfl ?_
  refine lv_goto (tgt := 1769) hx hb dL_law_1587 (by decide) ?_
  refine W.widen (k := CC + 389) (n := SS + 3227) (by omega) (by omega) ?_
  exact kk u8 _ _ ls hu m_x k_x m_mm k_mm hR hP hD hS hl
set_option maxHeartbeats 4000000 in
set_option maxRecDepth 100000 in
theorem law_44 {p : Program} {l : Launch} {e : Env} {s : State} {m : MethodId} {below : List Frame} {meth : Method} {c : Code} {b L : Nat} {xs : Nat → Int32} {D : va_G} {k : Nat → ClassId} {tt : TT} (C0 : lw_At p s m meth c b L xs) (hL : L ≤ 3072) (hN : NW s) (hK : va_K D vwCl (TYS k) s) (hE : SX tt (fun q : Nat => s.heap.size ≤ q) s s.heap) {x mm : Nat} {v3 : Int32} {CC SS : Nat} (hv : 0 ≤ v3.toInt ∧ v3.toInt + 6 ≤ L) (hC : CC + 389 ≤ 600000) (hSl : SS + 3227 ≤ 7302250) (kk : ∀ (u : PSt) (H : Heap) (locs : List Loc) (ls : Array Slot), WT u → x ∈ u.1 → u.2.1 x = 11 → mm ∈ u.1 → u.2.1 mm = 12 → REL u x mm → va_P D vwCl (PW k u) H → va_D (fun q : Nat => s.heap.size ≤ q) (PW k u) → va_S (fun q : Nat => s.heap.size ≤ q) s.heap H locs → lv_has ls 4 [(0, .ref b), (1, .ref x), (2, .ref mm), (3, .int v3)] → W p l e room_1 s m #[Value.ref b] below meth c H locs (CC + 389) (SS + 3227) (lw_Z below #[Value.ref b] s) (F0 m 1769 ls [])) {u : PSt} {H : Heap} {locs : List Loc} {ls : Array Slot} (hu : WT u) (m_x : x ∈ u.1) (k_x : u.2.1 x = 11) (m_mm : mm ∈ u.1) (k_mm : u.2.1 mm = 12) (hR : REL u x mm) (hP : va_P D vwCl (PW k u) H) (hD : va_D (fun q : Nat => s.heap.size ≤ q) (PW k u)) (hS : va_S (fun q : Nat => s.heap.size ≤ q) s.heap H locs) (hl : lv_has ls 4 [(0, .ref b), (1, .ref x), (2, .ref mm), (3, .int v3)]) : W p l e room_1 s m #[Value.ref b] below meth c H locs (CC) (SS) (lw_Z below #[Value.ref b] s) (F0 m 1590 ls []) := by
  obtain ⟨hx, hb, hr, hml, hown, hts0, hX, hbl, hlocks, hgv⟩ := id C0
  have hA : ∀ q : Nat, s.heap.size ≤ q → (fun q : Nat => s.heap.size ≤ q) q := fun _ h => h
  have hbA : ¬ (fun q : Nat => s.heap.size ≤ q) b := Nat.not_le.mpr hbl
  refine lv_aload_n hx hb dL_law_1590 rfl (lv_at hl 1 rfl) ?_
  refine lv_aload_n hx hb dL_law_1591 rfl (lv_at hl 0 rfl) ?_
  refine lv_iload_n hx hb dL_law_1592 rfl (lv_at hl 3 rfl) ?_
  refine lv_iconst (v := 1) hx hb dL_law_1593 (by decide) ?_
  refine lv_iadd hx hb dL_law_1594 ?_
  refine lv_topi (fun x1 ex1 => ?_)
  have tx1 : x1.toInt = v3.toInt + 1 := by rw [ex1]; exact i_add (b := 1) (by show -2147483648 ≤ v3.toInt + 1; omega) (by show v3.toInt + 1 ≤ 2147483647; omega)
  refine va_sld hx hb hX hbl hbA hS (vp_in_iff.mpr (by omega)) dL_law_1595 ?_
  refine lv_topi (fun y2 ey2 => ?_)
  refine lv_aload_n hx hb dL_law_1596 rfl (lv_at hl 0 rfl) ?_
  refine lv_iload_n hx hb dL_law_1597 rfl (lv_at hl 3 rfl) ?_
  refine lv_iconst (v := 2) hx hb dL_law_1598 (by decide) ?_
  refine lv_iadd hx hb dL_law_1599 ?_
  refine lv_topi (fun x3 ex3 => ?_)
  have tx3 : x3.toInt = v3.toInt + 2 := by rw [ex3]; exact i_add (b := 2) (by show -2147483648 ≤ v3.toInt + 2; omega) (by show v3.toInt + 2 ≤ 2147483647; omega)
  refine va_sld hx hb hX hbl hbA hS (vp_in_iff.mpr (by omega)) dL_law_1600 ?_
  refine lv_topi (fun y4 ey4 => ?_)
  refine lv_aload_n hx hb dL_law_1601 rfl (lv_at hl 0 rfl) ?_
  refine lv_iload_n hx hb dL_law_1602 rfl (lv_at hl 3 rfl) ?_
  refine lv_iconst (v := 3) hx hb dL_law_1603 (by decide) ?_
  refine lv_iadd hx hb dL_law_1604 ?_
  refine lv_topi (fun x5 ex5 => ?_)
  have tx5 : x5.toInt = v3.toInt + 3 := by rw [ex5]; exact i_add (b := 3) (by show -2147483648 ≤ v3.toInt + 3; omega) (by show v3.toInt + 3 ≤ 2147483647; omega)
  refine va_sld hx hb hX hbl hbA hS (vp_in_iff.mpr (by omega)) dL_law_1605 ?_
  refine lv_topi (fun y6 ey6 => ?_)
  have htc := fun w h => hts0 w (hwL_X11_row w h)
  refine wiV (C := RX11) (As := [.int y2, .int y4, .int y6]) (rest := []) ⟨hx, hb, hml, hown, htc⟩ (fun sz => t2_X11_row l D k u hu x m_x k_x y2 y4 y6 sz) (cwV 3 htc gS_X11_row rfl rfl rfl (by decide +kernel) ⟨Nat.le_of_ble_eq_true rfl, Nat.le_of_ble_eq_true rfl⟩) hP hK hD hN hS hA (precv hK hP m_x (cF11 k_x) rfl) rfl hl.1 rfl (Nat.le_of_ble_eq_true rfl) dL_law_1606 ⟨by show CC + _ ≤ 600000; omega, by show SS + _ ≤ 7302250; omega⟩ (fun r7 u8 H locs hq hP hD hS => ?_)
  obtain ⟨hu, hxu8, hr7⟩ := hq
  have m_x0 := m_x
  have k_x0 := k_x
  have m_mm0 := m_mm
  have k_mm0 := k_mm
  have k_x : u8.2.1 x = 11 := (hxu8 x m_x).2.trans k_x
  have m_x : x ∈ u8.1 := (hxu8 x m_x).1
  have k_mm : u8.2.1 mm = 12 := (hxu8 mm m_mm).2.trans k_mm
  have m_mm : mm ∈ u8.1 := (hxu8 mm m_mm).1
  refine lv_pop hx hb dL_law_1609 rfl ?_
  refine lv_aload_n hx hb dL_law_1610 rfl (lv_at hl 2 rfl) ?_
  refine lv_aload_n hx hb dL_law_1611 rfl (lv_at hl 0 rfl) ?_
  refine lv_iload_n hx hb dL_law_1612 rfl (lv_at hl 3 rfl) ?_
  refine lv_iconst (v := 1) hx hb dL_law_1613 (by decide) ?_
  refine lv_iadd hx hb dL_law_1614 ?_
  refine lv_topi (fun x9 ex9 => ?_)
  have tx9 : x9.toInt = v3.toInt + 1 := by rw [ex9]; exact i_add (b := 1) (by show -2147483648 ≤ v3.toInt + 1; omega) (by show v3.toInt + 1 ≤ 2147483647; omega)
  refine va_sld hx hb hX hbl hbA hS (vp_in_iff.mpr (by omega)) dL_law_1615 ?_
  refine lv_topi (fun y10 ey10 => ?_)
  have qy10 : y10.toInt = y2.toInt := by rw [ey10, ey2, Int32.toInt_inj.mp (show x9.toInt = x1.toInt by omega)]
  refine lv_aload_n hx hb dL_law_1616 rfl (lv_at hl 0 rfl) ?_
  refine lv_iload_n hx hb dL_law_1617 rfl (lv_at hl 3 rfl) ?_
  refine lv_iconst (v := 2) hx hb dL_law_1618 (by decide) ?_
  refine lv_iadd hx hb dL_law_1619 ?_
  refine lv_topi (fun x11 ex11 => ?_)
  have tx11 : x11.toInt = v3.toInt + 2 := by rw [ex11]; exact i_add (b := 2) (by show -2147483648 ≤ v3.toInt + 2; omega) (by show v3.toInt + 2 ≤ 2147483647; omega)
  refine va_sld hx hb hX hbl hbA hS (vp_in_iff.mpr (by omega)) dL_law_1620 ?_
  refine lv_topi (fun y12 ey12 => ?_)
  have qy12 : y12.toInt = y4.toInt := by rw [ey12, ey4, Int32.toInt_inj.mp (show x11.toInt = x3.toInt by omega)]
  refine lv_aload_n hx hb dL_law_1621 rfl (lv_at hl 0 rfl) ?_
  refine lv_iload_n hx hb dL_law_1622 rfl (lv_at hl 3 rfl) ?_
  refine lv_iconst (v := 3) hx hb dL_law_1623 (by decide) ?_
  refine lv_iadd hx hb dL_law_1624 ?_
  refine lv_topi (fun x13 ex13 => ?_)
  have tx13 : x13.toInt = v3.toInt + 3 := by rw [ex13]; exact i_add (b := 3) (by show -2147483648 ≤ v3.toInt + 3; omega) (by show v3.toInt + 3 ≤ 2147483647; omega)
  refine va_sld hx hb hX hbl hbA hS (vp_in_iff.mpr (by omega)) dL_law_1625 ?_
  refine lv_topi (fun y14 ey14 => ?_)
  have qy14 : y14.toInt = y6.toInt := by rw [ey14, ey6, Int32.toInt_inj.mp (show x13.toInt = x5.toInt by omega)]
  have htc := fun w h => hts0 w (hwL_X12_row w h)
  refine wiV (C := RX12) (As := [.int y10, .int y12, .int y14]) (rest := []) ⟨hx, hb, hml, hown, htc⟩ (fun sz => t2_X12_row l D k u8 hu mm m_mm k_mm y10 y12 y14 sz) (cwV 3 htc gS_X12_row rfl rfl rfl (by decide +kernel) ⟨Nat.le_of_ble_eq_true rfl, Nat.le_of_ble_eq_true rfl⟩) hP hK hD hN hS hA (precv hK hP m_mm (cF12 k_mm) rfl) rfl hl.1 rfl (Nat.le_of_ble_eq_true rfl) dL_law_1626 ⟨by show CC + _ ≤ 600000; omega, by show SS + _ ≤ 7302250; omega⟩ (fun r15 u16 H locs hq hP hD hS => ?_)
  obtain ⟨hu, hxu16, hr15⟩ := hq
  obtain ⟨hcmp, hR⟩ := REL_row m_x0 k_x0 m_mm0 k_mm0 hR qy10 qy12 qy14 hr7 hr15
  have k_x : u16.2.1 x = 11 := (hxu16 x m_x).2.1.trans k_x
  have m_x : x ∈ u16.1 := (hxu16 x m_x).1
  have k_mm : u16.2.1 mm = 12 := (hxu16 mm m_mm).2.1.trans k_mm
  have m_mm : mm ∈ u16.1 := (hxu16 mm m_mm).1
  refine lv_pop hx hb dL_law_1629 rfl ?_
  refine lv_goto (tgt := 1769) hx hb dL_law_1630 (by decide) ?_
  refine W.widen (k := CC + 389) (n := SS + 3227) (by omega) (by omega) ?_
  exact kk u16 _ _ ls hu m_x k_x m_mm k_mm hR hP hD hS hl
set_option maxHeartbeats 4000000 in
set_option maxRecDepth 100000 in
theorem law_45 {p : Program} {l : Launch} {e : Env} {s : State} {m : MethodId} {below : List Frame} {meth : Method} {c : Code} {b L : Nat} {xs : Nat → Int32} {D : va_G} {k : Nat → ClassId} {tt : TT} (C0 : lw_At p s m meth c b L xs) (hL : L ≤ 3072) (hN : NW s) (hK : va_K D vwCl (TYS k) s) (hE : SX tt (fun q : Nat => s.heap.size ≤ q) s s.heap) {x mm : Nat} {v3 : Int32} {CC SS : Nat} (hv : 0 ≤ v3.toInt ∧ v3.toInt + 6 ≤ L) (hC : CC + 389 ≤ 600000) (hSl : SS + 3227 ≤ 7302250) (kk : ∀ (u : PSt) (H : Heap) (locs : List Loc) (ls : Array Slot), WT u → x ∈ u.1 → u.2.1 x = 11 → mm ∈ u.1 → u.2.1 mm = 12 → REL u x mm → va_P D vwCl (PW k u) H → va_D (fun q : Nat => s.heap.size ≤ q) (PW k u) → va_S (fun q : Nat => s.heap.size ≤ q) s.heap H locs → lv_has ls 4 [(0, .ref b), (1, .ref x), (2, .ref mm), (3, .int v3)] → W p l e room_1 s m #[Value.ref b] below meth c H locs (CC + 389) (SS + 3227) (lw_Z below #[Value.ref b] s) (F0 m 1769 ls [])) {u : PSt} {H : Heap} {locs : List Loc} {ls : Array Slot} (hu : WT u) (m_x : x ∈ u.1) (k_x : u.2.1 x = 11) (m_mm : mm ∈ u.1) (k_mm : u.2.1 mm = 12) (hR : REL u x mm) (hP : va_P D vwCl (PW k u) H) (hD : va_D (fun q : Nat => s.heap.size ≤ q) (PW k u)) (hS : va_S (fun q : Nat => s.heap.size ≤ q) s.heap H locs) (hl : lv_has ls 4 [(0, .ref b), (1, .ref x), (2, .ref mm), (3, .int v3)]) : W p l e room_1 s m #[Value.ref b] below meth c H locs (CC) (SS) (lw_Z below #[Value.ref b] s) (F0 m 1633 ls []) := by
  obtain ⟨hx, hb, hr, hml, hown, hts0, hX, hbl, hlocks, hgv⟩ := id C0
  have hA : ∀ q : Nat, s.heap.size ≤ q → (fun q : Nat => s.heap.size ≤ q) q := fun _ h => h
  have hbA : ¬ (fun q : Nat => s.heap.size ≤ q) b := Nat.not_le.mpr hbl
  refine lv_aload_n hx hb dL_law_1633 rfl (lv_at hl 1 rfl) ?_
  refine lv_aload_n hx hb dL_law_1634 rfl (lv_at hl 0 rfl) ?_
  refine lv_iload_n hx hb dL_law_1635 rfl (lv_at hl 3 rfl) ?_
  refine lv_iconst (v := 1) hx hb dL_law_1636 (by decide) ?_
  refine lv_iadd hx hb dL_law_1637 ?_
  refine lv_topi (fun x1 ex1 => ?_)
  have tx1 : x1.toInt = v3.toInt + 1 := by rw [ex1]; exact i_add (b := 1) (by show -2147483648 ≤ v3.toInt + 1; omega) (by show v3.toInt + 1 ≤ 2147483647; omega)
  refine va_sld hx hb hX hbl hbA hS (vp_in_iff.mpr (by omega)) dL_law_1638 ?_
  refine lv_topi (fun y2 ey2 => ?_)
  refine lv_aload_n hx hb dL_law_1639 rfl (lv_at hl 0 rfl) ?_
  refine lv_iload_n hx hb dL_law_1640 rfl (lv_at hl 3 rfl) ?_
  refine lv_iconst (v := 2) hx hb dL_law_1641 (by decide) ?_
  refine lv_iadd hx hb dL_law_1642 ?_
  refine lv_topi (fun x3 ex3 => ?_)
  have tx3 : x3.toInt = v3.toInt + 2 := by rw [ex3]; exact i_add (b := 2) (by show -2147483648 ≤ v3.toInt + 2; omega) (by show v3.toInt + 2 ≤ 2147483647; omega)
  refine va_sld hx hb hX hbl hbA hS (vp_in_iff.mpr (by omega)) dL_law_1643 ?_
  refine lv_topi (fun y4 ey4 => ?_)
  refine lv_aload_n hx hb dL_law_1644 rfl (lv_at hl 0 rfl) ?_
  refine lv_iload_n hx hb dL_law_1645 rfl (lv_at hl 3 rfl) ?_
  refine lv_iconst (v := 3) hx hb dL_law_1646 (by decide) ?_
  refine lv_iadd hx hb dL_law_1647 ?_
  refine lv_topi (fun x5 ex5 => ?_)
  have tx5 : x5.toInt = v3.toInt + 3 := by rw [ex5]; exact i_add (b := 3) (by show -2147483648 ≤ v3.toInt + 3; omega) (by show v3.toInt + 3 ≤ 2147483647; omega)
  refine va_sld hx hb hX hbl hbA hS (vp_in_iff.mpr (by omega)) dL_law_1648 ?_
  refine lv_topi (fun y6 ey6 => ?_)
  refine lv_i2l hx hb dL_law_1649 rfl ?_
  refine lv_topl (fun l7 el7 => ?_)
  refine lv_bipush (v := 32) hx hb dL_law_1650 (by decide) ?_
  refine lv_lshl hx hb dL_law_1652 rfl ?_
  refine lv_topl (fun l8 el8 => ?_)
  refine lv_aload_n hx hb dL_law_1653 rfl (lv_at hl 0 rfl) ?_
  refine lv_iload_n hx hb dL_law_1654 rfl (lv_at hl 3 rfl) ?_
  refine lv_iconst (v := 4) hx hb dL_law_1655 (by decide) ?_
  refine lv_iadd hx hb dL_law_1656 ?_
  refine lv_topi (fun x9 ex9 => ?_)
  have tx9 : x9.toInt = v3.toInt + 4 := by rw [ex9]; exact i_add (b := 4) (by show -2147483648 ≤ v3.toInt + 4; omega) (by show v3.toInt + 4 ≤ 2147483647; omega)
  refine va_sld hx hb hX hbl hbA hS (vp_in_iff.mpr (by omega)) dL_law_1657 ?_
  refine lv_topi (fun y10 ey10 => ?_)
  refine lv_i2l hx hb dL_law_1658 rfl ?_
  refine lv_topl (fun l11 el11 => ?_)
  refine lv_ldc2 (own := RL) (v := 4294967295) hx hb hown (hts0 (.constantLong RL 200 (4294967295)) (wsL_law_r1_in _ (List.mem_of_getElem? (i := 6) rfl))) dL_law_1659 ?_
  refine lv_land hx hb dL_law_1662 ?_
  refine lv_topl (fun l12 el12 => ?_)
  refine lv_lor hx hb dL_law_1663 ?_
  refine lv_topl (fun l13 el13 => ?_)
  have htc := fun w h => hts0 w (hwL_X11_write w h)
  refine wiV (C := RX11) (As := [.int y2, .int y4, .long l13]) (rest := []) ⟨hx, hb, hml, hown, htc⟩ (fun sz => t2_X11_write l D k u hu x m_x k_x y2 y4 l13 sz) (cwV 3 htc gS_X11_write rfl rfl rfl (by decide +kernel) ⟨Nat.le_of_ble_eq_true rfl, Nat.le_of_ble_eq_true rfl⟩) hP hK hD hN hS hA (precv hK hP m_x (cF11 k_x) rfl) rfl hl.1 rfl (Nat.le_of_ble_eq_true rfl) dL_law_1664 ⟨by show CC + _ ≤ 600000; omega, by show SS + _ ≤ 7302250; omega⟩ (fun r14 u15 H locs hq hP hD hS => ?_)
  obtain ⟨hu, hxu15, hr14⟩ := hq
  have m_x0 := m_x
  have k_x0 := k_x
  have m_mm0 := m_mm
  have k_mm0 := k_mm
  have k_x : u15.2.1 x = 11 := (hxu15 x m_x).2.1.trans k_x
  have m_x : x ∈ u15.1 := (hxu15 x m_x).1
  have k_mm : u15.2.1 mm = 12 := (hxu15 mm m_mm).2.1.trans k_mm
  have m_mm : mm ∈ u15.1 := (hxu15 mm m_mm).1
  refine lv_pop hx hb dL_law_1667 rfl ?_
  refine lv_aload_n hx hb dL_law_1668 rfl (lv_at hl 2 rfl) ?_
  refine lv_aload_n hx hb dL_law_1669 rfl (lv_at hl 0 rfl) ?_
  refine lv_iload_n hx hb dL_law_1670 rfl (lv_at hl 3 rfl) ?_
  refine lv_iconst (v := 1) hx hb dL_law_1671 (by decide) ?_
  refine lv_iadd hx hb dL_law_1672 ?_
  refine lv_topi (fun x16 ex16 => ?_)
  have tx16 : x16.toInt = v3.toInt + 1 := by rw [ex16]; exact i_add (b := 1) (by show -2147483648 ≤ v3.toInt + 1; omega) (by show v3.toInt + 1 ≤ 2147483647; omega)
  refine va_sld hx hb hX hbl hbA hS (vp_in_iff.mpr (by omega)) dL_law_1673 ?_
  refine lv_topi (fun y17 ey17 => ?_)
  have qy17 : y17.toInt = y2.toInt := by rw [ey17, ey2, Int32.toInt_inj.mp (show x16.toInt = x1.toInt by omega)]
  refine lv_aload_n hx hb dL_law_1674 rfl (lv_at hl 0 rfl) ?_
  refine lv_iload_n hx hb dL_law_1675 rfl (lv_at hl 3 rfl) ?_
  refine lv_iconst (v := 2) hx hb dL_law_1676 (by decide) ?_
  refine lv_iadd hx hb dL_law_1677 ?_
  refine lv_topi (fun x18 ex18 => ?_)
  have tx18 : x18.toInt = v3.toInt + 2 := by rw [ex18]; exact i_add (b := 2) (by show -2147483648 ≤ v3.toInt + 2; omega) (by show v3.toInt + 2 ≤ 2147483647; omega)
  refine va_sld hx hb hX hbl hbA hS (vp_in_iff.mpr (by omega)) dL_law_1678 ?_
  refine lv_topi (fun y19 ey19 => ?_)
  have qy19 : y19.toInt = y4.toInt := by rw [ey19, ey4, Int32.toInt_inj.mp (show x18.toInt = x3.toInt by omega)]
  refine lv_aload_n hx hb dL_law_1679 rfl (lv_at hl 0 rfl) ?_
  refine lv_iload_n hx hb dL_law_1680 rfl (lv_at hl 3 rfl) ?_
  refine lv_iconst (v := 3) hx hb dL_law_1681 (by decide) ?_
  refine lv_iadd hx hb dL_law_1682 ?_
  refine lv_topi (fun x20 ex20 => ?_)
  have tx20 : x20.toInt = v3.toInt + 3 := by rw [ex20]; exact i_add (b := 3) (by show -2147483648 ≤ v3.toInt + 3; omega) (by show v3.toInt + 3 ≤ 2147483647; omega)
  refine va_sld hx hb hX hbl hbA hS (vp_in_iff.mpr (by omega)) dL_law_1683 ?_
  refine lv_topi (fun y21 ey21 => ?_)
  have qy21 : y21.toInt = y6.toInt := by rw [ey21, ey6, Int32.toInt_inj.mp (show x20.toInt = x5.toInt by omega)]
  refine lv_i2l hx hb dL_law_1684 rfl ?_
  refine lv_topl (fun l22 el22 => ?_)
  refine lv_bipush (v := 32) hx hb dL_law_1685 (by decide) ?_
  refine lv_lshl hx hb dL_law_1687 rfl ?_
  refine lv_topl (fun l23 el23 => ?_)
  refine lv_aload_n hx hb dL_law_1688 rfl (lv_at hl 0 rfl) ?_
  refine lv_iload_n hx hb dL_law_1689 rfl (lv_at hl 3 rfl) ?_
  refine lv_iconst (v := 4) hx hb dL_law_1690 (by decide) ?_
  refine lv_iadd hx hb dL_law_1691 ?_
  refine lv_topi (fun x24 ex24 => ?_)
  have tx24 : x24.toInt = v3.toInt + 4 := by rw [ex24]; exact i_add (b := 4) (by show -2147483648 ≤ v3.toInt + 4; omega) (by show v3.toInt + 4 ≤ 2147483647; omega)
  refine va_sld hx hb hX hbl hbA hS (vp_in_iff.mpr (by omega)) dL_law_1692 ?_
  refine lv_topi (fun y25 ey25 => ?_)
  have qy25 : y25.toInt = y10.toInt := by rw [ey25, ey10, Int32.toInt_inj.mp (show x24.toInt = x9.toInt by omega)]
  refine lv_i2l hx hb dL_law_1693 rfl ?_
  refine lv_topl (fun l26 el26 => ?_)
  refine lv_ldc2 (own := RL) (v := 4294967295) hx hb hown (hts0 (.constantLong RL 200 (4294967295)) (wsL_law_r1_in _ (List.mem_of_getElem? (i := 6) rfl))) dL_law_1694 ?_
  refine lv_land hx hb dL_law_1697 ?_
  refine lv_topl (fun l27 el27 => ?_)
  refine lv_lor hx hb dL_law_1698 ?_
  refine lv_topl (fun l28 el28 => ?_)
  have htc := fun w h => hts0 w (hwL_X12_write w h)
  refine wiV (C := RX12) (As := [.int y17, .int y19, .long l28]) (rest := []) ⟨hx, hb, hml, hown, htc⟩ (fun sz => t2_X12_write l D k u15 hu mm m_mm k_mm y17 y19 l28 sz) (cwV 3 htc gS_X12_write rfl rfl rfl (by decide +kernel) ⟨Nat.le_of_ble_eq_true rfl, Nat.le_of_ble_eq_true rfl⟩) hP hK hD hN hS hA (precv hK hP m_mm (cF12 k_mm) rfl) rfl hl.1 rfl (Nat.le_of_ble_eq_true rfl) dL_law_1699 ⟨by show CC + _ ≤ 600000; omega, by show SS + _ ≤ 7302250; omega⟩ (fun r29 u30 H locs hq hP hD hS => ?_)
  obtain ⟨hu, hxu30, hr29⟩ := hq
  obtain ⟨hcmp, hR⟩ := REL_write m_x0 k_x0 m_mm0 k_mm0 hR qy17 qy19 hxu15 hr14 hxu30 hr29
  have k_x : u30.2.1 x = 11 := (hxu30 x m_x).2.1.trans k_x
  have m_x : x ∈ u30.1 := (hxu30 x m_x).1
  have k_mm : u30.2.1 mm = 12 := (hxu30 mm m_mm).2.1.trans k_mm
  have m_mm : mm ∈ u30.1 := (hxu30 mm m_mm).1
  refine lv_pop hx hb dL_law_1702 rfl ?_
  refine lv_goto (tgt := 1769) hx hb dL_law_1703 (by decide) ?_
  refine W.widen (k := CC + 389) (n := SS + 3227) (by omega) (by omega) ?_
  exact kk u30 _ _ ls hu m_x k_x m_mm k_mm hR hP hD hS hl
set_option maxHeartbeats 4000000 in
set_option maxRecDepth 100000 in
theorem law_46 {p : Program} {l : Launch} {e : Env} {s : State} {m : MethodId} {below : List Frame} {meth : Method} {c : Code} {b L : Nat} {xs : Nat → Int32} {D : va_G} {k : Nat → ClassId} {tt : TT} (C0 : lw_At p s m meth c b L xs) (hL : L ≤ 3072) (hN : NW s) (hK : va_K D vwCl (TYS k) s) (hE : SX tt (fun q : Nat => s.heap.size ≤ q) s s.heap) {x mm : Nat} {v3 : Int32} {CC SS : Nat} (hv : 0 ≤ v3.toInt ∧ v3.toInt + 6 ≤ L) (hC : CC + 389 ≤ 600000) (hSl : SS + 3227 ≤ 7302250) (kk : ∀ (u : PSt) (H : Heap) (locs : List Loc) (ls : Array Slot), WT u → x ∈ u.1 → u.2.1 x = 11 → mm ∈ u.1 → u.2.1 mm = 12 → REL u x mm → va_P D vwCl (PW k u) H → va_D (fun q : Nat => s.heap.size ≤ q) (PW k u) → va_S (fun q : Nat => s.heap.size ≤ q) s.heap H locs → lv_has ls 4 [(0, .ref b), (1, .ref x), (2, .ref mm), (3, .int v3)] → W p l e room_1 s m #[Value.ref b] below meth c H locs (CC + 389) (SS + 3227) (lw_Z below #[Value.ref b] s) (F0 m 1769 ls [])) {u : PSt} {H : Heap} {locs : List Loc} {ls : Array Slot} (hu : WT u) (m_x : x ∈ u.1) (k_x : u.2.1 x = 11) (m_mm : mm ∈ u.1) (k_mm : u.2.1 mm = 12) (hR : REL u x mm) (hP : va_P D vwCl (PW k u) H) (hD : va_D (fun q : Nat => s.heap.size ≤ q) (PW k u)) (hS : va_S (fun q : Nat => s.heap.size ≤ q) s.heap H locs) (hl : lv_has ls 4 [(0, .ref b), (1, .ref x), (2, .ref mm), (3, .int v3)]) : W p l e room_1 s m #[Value.ref b] below meth c H locs (CC) (SS) (lw_Z below #[Value.ref b] s) (F0 m 1706 ls []) := by
  obtain ⟨hx, hb, hr, hml, hown, hts0, hX, hbl, hlocks, hgv⟩ := id C0
  have hA : ∀ q : Nat, s.heap.size ≤ q → (fun q : Nat => s.heap.size ≤ q) q := fun _ h => h
  have hbA : ¬ (fun q : Nat => s.heap.size ≤ q) b := Nat.not_le.mpr hbl
  refine lv_aload_n hx hb dL_law_1706 rfl (lv_at hl 1 rfl) ?_
  refine lv_aload_n hx hb dL_law_1707 rfl (lv_at hl 0 rfl) ?_
  refine lv_iload_n hx hb dL_law_1708 rfl (lv_at hl 3 rfl) ?_
  refine lv_iconst (v := 1) hx hb dL_law_1709 (by decide) ?_
  refine lv_iadd hx hb dL_law_1710 ?_
  refine lv_topi (fun x1 ex1 => ?_)
  have tx1 : x1.toInt = v3.toInt + 1 := by rw [ex1]; exact i_add (b := 1) (by show -2147483648 ≤ v3.toInt + 1; omega) (by show v3.toInt + 1 ≤ 2147483647; omega)
  refine va_sld hx hb hX hbl hbA hS (vp_in_iff.mpr (by omega)) dL_law_1711 ?_
  refine lv_topi (fun y2 ey2 => ?_)
  refine lv_aload_n hx hb dL_law_1712 rfl (lv_at hl 0 rfl) ?_
  refine lv_iload_n hx hb dL_law_1713 rfl (lv_at hl 3 rfl) ?_
  refine lv_iconst (v := 2) hx hb dL_law_1714 (by decide) ?_
  refine lv_iadd hx hb dL_law_1715 ?_
  refine lv_topi (fun x3 ex3 => ?_)
  have tx3 : x3.toInt = v3.toInt + 2 := by rw [ex3]; exact i_add (b := 2) (by show -2147483648 ≤ v3.toInt + 2; omega) (by show v3.toInt + 2 ≤ 2147483647; omega)
  refine va_sld hx hb hX hbl hbA hS (vp_in_iff.mpr (by omega)) dL_law_1716 ?_
  refine lv_topi (fun y4 ey4 => ?_)
  refine lv_aload_n hx hb dL_law_1717 rfl (lv_at hl 0 rfl) ?_
  refine lv_iload_n hx hb dL_law_1718 rfl (lv_at hl 3 rfl) ?_
  refine lv_iconst (v := 3) hx hb dL_law_1719 (by decide) ?_
  refine lv_iadd hx hb dL_law_1720 ?_
  refine lv_topi (fun x5 ex5 => ?_)
  have tx5 : x5.toInt = v3.toInt + 3 := by rw [ex5]; exact i_add (b := 3) (by show -2147483648 ≤ v3.toInt + 3; omega) (by show v3.toInt + 3 ≤ 2147483647; omega)
  refine va_sld hx hb hX hbl hbA hS (vp_in_iff.mpr (by omega)) dL_law_1721 ?_
  refine lv_topi (fun y6 ey6 => ?_)
  refine lv_aload_n hx hb dL_law_1722 rfl (lv_at hl 0 rfl) ?_
  refine lv_iload_n hx hb dL_law_1723 rfl (lv_at hl 3 rfl) ?_
  refine lv_iconst (v := 4) hx hb dL_law_1724 (by decide) ?_
  refine lv_iadd hx hb dL_law_1725 ?_
  refine lv_topi (fun x7 ex7 => ?_)
  have tx7 : x7.toInt = v3.toInt + 4 := by rw [ex7]; exact i_add (b := 4) (by show -2147483648 ≤ v3.toInt + 4; omega) (by show v3.toInt + 4 ≤ 2147483647; omega)
  refine va_sld hx hb hX hbl hbA hS (vp_in_iff.mpr (by omega)) dL_law_1726 ?_
  refine lv_topi (fun y8 ey8 => ?_)
  refine lv_aload_n hx hb dL_law_1727 rfl (lv_at hl 0 rfl) ?_
  refine lv_iload_n hx hb dL_law_1728 rfl (lv_at hl 3 rfl) ?_
  refine lv_iconst (v := 5) hx hb dL_law_1729 (by decide) ?_
  refine lv_iadd hx hb dL_law_1730 ?_
  refine lv_topi (fun x9 ex9 => ?_)
  have tx9 : x9.toInt = v3.toInt + 5 := by rw [ex9]; exact i_add (b := 5) (by show -2147483648 ≤ v3.toInt + 5; omega) (by show v3.toInt + 5 ≤ 2147483647; omega)
  refine va_sld hx hb hX hbl hbA hS (vp_in_iff.mpr (by omega)) dL_law_1731 ?_
  refine lv_topi (fun y10 ey10 => ?_)
  have htc := fun w h => hts0 w (hwL_X11_paste w h)
  refine wiV (C := RX11) (As := [.int y2, .int y4, .int y6, .int y8, .int y10]) (rest := []) ⟨hx, hb, hml, hown, htc⟩ (fun sz => t2_X11_paste l D k u hu x m_x k_x y2 y4 y6 y8 y10 sz) (cwV 5 htc gS_X11_paste rfl rfl rfl (by decide +kernel) ⟨Nat.le_of_ble_eq_true rfl, Nat.le_of_ble_eq_true rfl⟩) hP hK hD hN hS hA (precv hK hP m_x (cF11 k_x) rfl) rfl hl.1 rfl (Nat.le_of_ble_eq_true rfl) dL_law_1732 ⟨by show CC + _ ≤ 600000; omega, by show SS + _ ≤ 7302250; omega⟩ (fun r11 u12 H locs hq hP hD hS => ?_)
  obtain ⟨hu, hxu12, hr11⟩ := hq
  have m_x0 := m_x
  have k_x0 := k_x
  have m_mm0 := m_mm
  have k_mm0 := k_mm
  have k_x : u12.2.1 x = 11 := (hxu12 x m_x).2.1.trans k_x
  have m_x : x ∈ u12.1 := (hxu12 x m_x).1
  have k_mm : u12.2.1 mm = 12 := (hxu12 mm m_mm).2.1.trans k_mm
  have m_mm : mm ∈ u12.1 := (hxu12 mm m_mm).1
  refine lv_aload_n hx hb dL_law_1735 rfl (lv_at hl 2 rfl) ?_
  refine lv_aload_n hx hb dL_law_1736 rfl (lv_at hl 0 rfl) ?_
  refine lv_iload_n hx hb dL_law_1737 rfl (lv_at hl 3 rfl) ?_
  refine lv_iconst (v := 1) hx hb dL_law_1738 (by decide) ?_
  refine lv_iadd hx hb dL_law_1739 ?_
  refine lv_topi (fun x13 ex13 => ?_)
  have tx13 : x13.toInt = v3.toInt + 1 := by rw [ex13]; exact i_add (b := 1) (by show -2147483648 ≤ v3.toInt + 1; omega) (by show v3.toInt + 1 ≤ 2147483647; omega)
  refine va_sld hx hb hX hbl hbA hS (vp_in_iff.mpr (by omega)) dL_law_1740 ?_
  refine lv_topi (fun y14 ey14 => ?_)
  have qy14 : y14.toInt = y2.toInt := by rw [ey14, ey2, Int32.toInt_inj.mp (show x13.toInt = x1.toInt by omega)]
  refine lv_aload_n hx hb dL_law_1741 rfl (lv_at hl 0 rfl) ?_
  refine lv_iload_n hx hb dL_law_1742 rfl (lv_at hl 3 rfl) ?_
  refine lv_iconst (v := 2) hx hb dL_law_1743 (by decide) ?_
  refine lv_iadd hx hb dL_law_1744 ?_
  refine lv_topi (fun x15 ex15 => ?_)
  have tx15 : x15.toInt = v3.toInt + 2 := by rw [ex15]; exact i_add (b := 2) (by show -2147483648 ≤ v3.toInt + 2; omega) (by show v3.toInt + 2 ≤ 2147483647; omega)
  refine va_sld hx hb hX hbl hbA hS (vp_in_iff.mpr (by omega)) dL_law_1745 ?_
  refine lv_topi (fun y16 ey16 => ?_)
  have qy16 : y16.toInt = y4.toInt := by rw [ey16, ey4, Int32.toInt_inj.mp (show x15.toInt = x3.toInt by omega)]
  refine lv_aload_n hx hb dL_law_1746 rfl (lv_at hl 0 rfl) ?_
  refine lv_iload_n hx hb dL_law_1747 rfl (lv_at hl 3 rfl) ?_
  refine lv_iconst (v := 3) hx hb dL_law_1748 (by decide) ?_
  refine lv_iadd hx hb dL_law_1749 ?_
  refine lv_topi (fun x17 ex17 => ?_)
  have tx17 : x17.toInt = v3.toInt + 3 := by rw [ex17]; exact i_add (b := 3) (by show -2147483648 ≤ v3.toInt + 3; omega) (by show v3.toInt + 3 ≤ 2147483647; omega)
  refine va_sld hx hb hX hbl hbA hS (vp_in_iff.mpr (by omega)) dL_law_1750 ?_
  refine lv_topi (fun y18 ey18 => ?_)
  have qy18 : y18.toInt = y6.toInt := by rw [ey18, ey6, Int32.toInt_inj.mp (show x17.toInt = x5.toInt by omega)]
  refine lv_aload_n hx hb dL_law_1751 rfl (lv_at hl 0 rfl) ?_
  refine lv_iload_n hx hb dL_law_1752 rfl (lv_at hl 3 rfl) ?_
  refine lv_iconst (v := 4) hx hb dL_law_1753 (by decide) ?_
  refine lv_iadd hx hb dL_law_1754 ?_
  refine lv_topi (fun x19 ex19 => ?_)
  have tx19 : x19.toInt = v3.toInt + 4 := by rw [ex19]; exact i_add (b := 4) (by show -2147483648 ≤ v3.toInt + 4; omega) (by show v3.toInt + 4 ≤ 2147483647; omega)
  refine va_sld hx hb hX hbl hbA hS (vp_in_iff.mpr (by omega)) dL_law_1755 ?_
  refine lv_topi (fun y20 ey20 => ?_)
  have qy20 : y20.toInt = y8.toInt := by rw [ey20, ey8, Int32.toInt_inj.mp (show x19.toInt = x7.toInt by omega)]
  refine lv_aload_n hx hb dL_law_1756 rfl (lv_at hl 0 rfl) ?_
  refine lv_iload_n hx hb dL_law_1757 rfl (lv_at hl 3 rfl) ?_
  refine lv_iconst (v := 5) hx hb dL_law_1758 (by decide) ?_
  refine lv_iadd hx hb dL_law_1759 ?_
  refine lv_topi (fun x21 ex21 => ?_)
  have tx21 : x21.toInt = v3.toInt + 5 := by rw [ex21]; exact i_add (b := 5) (by show -2147483648 ≤ v3.toInt + 5; omega) (by show v3.toInt + 5 ≤ 2147483647; omega)
  refine va_sld hx hb hX hbl hbA hS (vp_in_iff.mpr (by omega)) dL_law_1760 ?_
  refine lv_topi (fun y22 ey22 => ?_)
  have qy22 : y22.toInt = y10.toInt := by rw [ey22, ey10, Int32.toInt_inj.mp (show x21.toInt = x9.toInt by omega)]
  have htc := fun w h => hts0 w (hwL_X12_paste w h)
  refine wiV (C := RX12) (As := [.int y14, .int y16, .int y18, .int y20, .int y22]) (rest := [.int r11]) ⟨hx, hb, hml, hown, htc⟩ (fun sz => t2_X12_paste l D k u12 hu mm m_mm k_mm y14 y16 y18 y20 y22 sz) (cwV 5 htc gS_X12_paste rfl rfl rfl (by decide +kernel) ⟨Nat.le_of_ble_eq_true rfl, Nat.le_of_ble_eq_true rfl⟩) hP hK hD hN hS hA (precv hK hP m_mm (cF12 k_mm) rfl) rfl hl.1 rfl (Nat.le_of_ble_eq_true rfl) dL_law_1761 ⟨by show CC + _ ≤ 600000; omega, by show SS + _ ≤ 7302250; omega⟩ (fun r23 u24 H locs hq hP hD hS => ?_)
  obtain ⟨hu, hxu24, hr23⟩ := hq
  obtain ⟨hcmp, hR⟩ := REL_paste m_x0 k_x0 m_mm0 k_mm0 hR qy14 qy16 qy18 qy20 qy22 hxu12 hr11 hxu24 hr23
  have k_x : u24.2.1 x = 11 := (hxu24 x m_x).2.1.trans k_x
  have m_x : x ∈ u24.1 := (hxu24 x m_x).1
  have k_mm : u24.2.1 mm = 12 := (hxu24 mm m_mm).2.1.trans k_mm
  have m_mm : mm ∈ u24.1 := (hxu24 mm m_mm).1
  refine lv_icmp_eq (tgt := 1769) hx hb dL_law_1764 (by decide) (fun _ => ?_) (fun c => absurd (i_eq.mpr hcmp) c)
  refine W.widen (k := CC + 389) (n := SS + 3227) (by omega) (by omega) ?_
  exact kk u24 _ _ ls hu m_x k_x m_mm k_mm hR hP hD hS hl
