set_option maxHeartbeats 4000000 in
set_option maxRecDepth 100000 in
theorem law_12 {p : Program} {l : Launch} {e : Env} {s : State} {m : MethodId} {below : List Frame} {meth : Method} {c : Code} {b L : Nat} {xs : Nat → Int32} {D : va_G} {k : Nat → ClassId} {tt : TT} (C0 : lw_At p s m meth c b L xs) (hL : L ≤ 3072) (hN : NW s) (hK : va_K D vwCl (TYS k) s) (hE : SX tt (fun q : Nat => s.heap.size ≤ q) s s.heap) {x mm : Nat} {v3 : Int32} {CC SS : Nat} (hv : 0 ≤ v3.toInt ∧ v3.toInt + 6 ≤ L) (hC : CC + 389 ≤ 600000) (hSl : SS + 3227 ≤ 7302250) (kk : ∀ (u : PSt) (H : Heap) (locs : List Loc) (ls : Array Slot), WT u → x ∈ u.1 → u.2.1 x = 11 → mm ∈ u.1 → u.2.1 mm = 12 → REL u x mm → va_P D vwCl (PW k u) H → va_D (fun q : Nat => s.heap.size ≤ q) (PW k u) → va_S (fun q : Nat => s.heap.size ≤ q) s.heap H locs → lv_has ls 4 [(0, .ref b), (1, .ref x), (2, .ref mm), (3, .int v3)] → W p l e room_1 s m #[Value.ref b] below meth c H locs (CC + 389) (SS + 3227) (lw_Z below #[Value.ref b] s) (F0 m 1769 ls [])) {u : PSt} {H : Heap} {locs : List Loc} {ls : Array Slot} (hu : WT u) (m_x : x ∈ u.1) (k_x : u.2.1 x = 11) (m_mm : mm ∈ u.1) (k_mm : u.2.1 mm = 12) (hR : REL u x mm) (hP : va_P D vwCl (PW k u) H) (hD : va_D (fun q : Nat => s.heap.size ≤ q) (PW k u)) (hS : va_S (fun q : Nat => s.heap.size ≤ q) s.heap H locs) (hl : lv_has ls 4 [(0, .ref b), (1, .ref x), (2, .ref mm), (3, .int v3)]) : W p l e room_1 s m #[Value.ref b] below meth c H locs (CC) (SS) (lw_Z below #[Value.ref b] s) (F0 m 602 ls []) := by
  obtain ⟨hx, hb, hr, hml, hown, hts0, hX, hbl, hlocks, hgv⟩ := id C0
  have hA : ∀ q : Nat, s.heap.size ≤ q → (fun q : Nat => s.heap.size ≤ q) q := fun _ h => h
  have hbA : ¬ (fun q : Nat => s.heap.size ≤ q) b := Nat.not_le.mpr hbl
  refine lv_aload_n hx hb dL_law_602 rfl (lv_at hl 1 rfl) ?_
  refine lv_aload_n hx hb dL_law_603 rfl (lv_at hl 0 rfl) ?_
  refine lv_iload_n hx hb dL_law_604 rfl (lv_at hl 3 rfl) ?_
  refine lv_iconst (v := 1) hx hb dL_law_605 (by decide) ?_
  refine lv_iadd hx hb dL_law_606 ?_
  refine lv_topi (fun x1 ex1 => ?_)
  have tx1 : x1.toInt = v3.toInt + 1 := by rw [ex1]; exact i_add (b := 1) (by show -2147483648 ≤ v3.toInt + 1; omega) (by show v3.toInt + 1 ≤ 2147483647; omega)
  refine va_sld hx hb hX hbl hbA hS (vp_in_iff.mpr (by omega)) dL_law_607 ?_
  refine lv_topi (fun y2 ey2 => ?_)
  have htc := fun w h => hts0 w (hwL_X11_goes w h)
  refine wiV (C := RX11) (As := [.int y2]) (rest := []) ⟨hx, hb, hml, hown, htc⟩ (fun sz => t_X11_goes l D k u hu x m_x k_x y2 sz) (cwV 1 htc gS_X11_goes rfl rfl rfl (by decide +kernel) ⟨Nat.le_of_ble_eq_true rfl, Nat.le_of_ble_eq_true rfl⟩) hP hK hD hN hS hA (precv hK hP m_x (cF11 k_x) rfl) rfl hl.1 rfl (Nat.le_of_ble_eq_true rfl) dL_law_608 ⟨by show CC + _ ≤ 600000; omega, by show SS + _ ≤ 7302250; omega⟩ (fun r3 u4 H locs hq hP hD hS => ?_)
  obtain ⟨hu, hxu4, hr3⟩ := hq
  have hR := REL.px m_x k_x m_mm k_mm hR hxu4
  have k_x : u4.2.1 x = 11 := (hxu4 x m_x).2.1.trans k_x
  have m_x : x ∈ u4.1 := (hxu4 x m_x).1
  have k_mm : u4.2.1 mm = 12 := (hxu4 mm m_mm).2.1.trans k_mm
  have m_mm : mm ∈ u4.1 := (hxu4 mm m_mm).1
  refine lv_pop hx hb dL_law_611 rfl ?_
  refine lv_aload_n hx hb dL_law_612 rfl (lv_at hl 2 rfl) ?_
  refine lv_aload_n hx hb dL_law_613 rfl (lv_at hl 0 rfl) ?_
  refine lv_iload_n hx hb dL_law_614 rfl (lv_at hl 3 rfl) ?_
  refine lv_iconst (v := 1) hx hb dL_law_615 (by decide) ?_
  refine lv_iadd hx hb dL_law_616 ?_
  refine lv_topi (fun x5 ex5 => ?_)
  have tx5 : x5.toInt = v3.toInt + 1 := by rw [ex5]; exact i_add (b := 1) (by show -2147483648 ≤ v3.toInt + 1; omega) (by show v3.toInt + 1 ≤ 2147483647; omega)
  refine va_sld hx hb hX hbl hbA hS (vp_in_iff.mpr (by omega)) dL_law_617 ?_
  refine lv_topi (fun y6 ey6 => ?_)
  have qy6 : y6.toInt = y2.toInt := by rw [ey6, ey2, Int32.toInt_inj.mp (show x5.toInt = x1.toInt by omega)]
  have htc := fun w h => hts0 w (hwL_X12_goes w h)
  refine wiV (C := RX12) (As := [.int y6]) (rest := []) ⟨hx, hb, hml, hown, htc⟩ (fun sz => t_X12_goes l D k u4 hu mm m_mm k_mm y6 sz) (cwV 1 htc gS_X12_goes rfl rfl rfl (by decide +kernel) ⟨Nat.le_of_ble_eq_true rfl, Nat.le_of_ble_eq_true rfl⟩) hP hK hD hN hS hA (precv hK hP m_mm (cF12 k_mm) rfl) rfl hl.1 rfl (Nat.le_of_ble_eq_true rfl) dL_law_618 ⟨by show CC + _ ≤ 600000; omega, by show SS + _ ≤ 7302250; omega⟩ (fun r7 u8 H locs hq hP hD hS => ?_)
  obtain ⟨hu, hxu8, hr7⟩ := hq
  have hR := REL.px m_x k_x m_mm k_mm hR hxu8
  have k_x : u8.2.1 x = 11 := (hxu8 x m_x).2.1.trans k_x
  have m_x : x ∈ u8.1 := (hxu8 x m_x).1
  have k_mm : u8.2.1 mm = 12 := (hxu8 mm m_mm).2.1.trans k_mm
  have m_mm : mm ∈ u8.1 := (hxu8 mm m_mm).1
  refine lv_pop hx hb dL_law_621 rfl ?_
  refine lv_goto (tgt := 1769) hx hb dL_law_622 (by decide) ?_
  refine W.widen (k := CC + 389) (n := SS + 3227) (by omega) (by omega) ?_
  exact kk u8 _ _ ls hu m_x k_x m_mm k_mm hR hP hD hS hl
set_option maxHeartbeats 4000000 in
set_option maxRecDepth 100000 in
theorem law_13 {p : Program} {l : Launch} {e : Env} {s : State} {m : MethodId} {below : List Frame} {meth : Method} {c : Code} {b L : Nat} {xs : Nat → Int32} {D : va_G} {k : Nat → ClassId} {tt : TT} (C0 : lw_At p s m meth c b L xs) (hL : L ≤ 3072) (hN : NW s) (hK : va_K D vwCl (TYS k) s) (hE : SX tt (fun q : Nat => s.heap.size ≤ q) s s.heap) {x mm : Nat} {v3 : Int32} {CC SS : Nat} (hv : 0 ≤ v3.toInt ∧ v3.toInt + 6 ≤ L) (hC : CC + 389 ≤ 600000) (hSl : SS + 3227 ≤ 7302250) (kk : ∀ (u : PSt) (H : Heap) (locs : List Loc) (ls : Array Slot), WT u → x ∈ u.1 → u.2.1 x = 11 → mm ∈ u.1 → u.2.1 mm = 12 → REL u x mm → va_P D vwCl (PW k u) H → va_D (fun q : Nat => s.heap.size ≤ q) (PW k u) → va_S (fun q : Nat => s.heap.size ≤ q) s.heap H locs → lv_has ls 4 [(0, .ref b), (1, .ref x), (2, .ref mm), (3, .int v3)] → W p l e room_1 s m #[Value.ref b] below meth c H locs (CC + 389) (SS + 3227) (lw_Z below #[Value.ref b] s) (F0 m 1769 ls [])) {u : PSt} {H : Heap} {locs : List Loc} {ls : Array Slot} (hu : WT u) (m_x : x ∈ u.1) (k_x : u.2.1 x = 11) (m_mm : mm ∈ u.1) (k_mm : u.2.1 mm = 12) (hR : REL u x mm) (hP : va_P D vwCl (PW k u) H) (hD : va_D (fun q : Nat => s.heap.size ≤ q) (PW k u)) (hS : va_S (fun q : Nat => s.heap.size ≤ q) s.heap H locs) (hl : lv_has ls 4 [(0, .ref b), (1, .ref x), (2, .ref mm), (3, .int v3)]) : W p l e room_1 s m #[Value.ref b] below meth c H locs (CC) (SS) (lw_Z below #[Value.ref b] s) (F0 m 625 ls []) := by
  obtain ⟨hx, hb, hr, hml, hown, hts0, hX, hbl, hlocks, hgv⟩ := id C0
  have hA : ∀ q : Nat, s.heap.size ≤ q → (fun q : Nat => s.heap.size ≤ q) q := fun _ h => h
  have hbA : ¬ (fun q : Nat => s.heap.size ≤ q) b := Nat.not_le.mpr hbl
  refine lv_aload_n hx hb dL_law_625 rfl (lv_at hl 1 rfl) ?_
  refine lv_aload_n hx hb dL_law_626 rfl (lv_at hl 0 rfl) ?_
  refine lv_iload_n hx hb dL_law_627 rfl (lv_at hl 3 rfl) ?_
  refine lv_iconst (v := 1) hx hb dL_law_628 (by decide) ?_
  refine lv_iadd hx hb dL_law_629 ?_
  refine lv_topi (fun x1 ex1 => ?_)
  have tx1 : x1.toInt = v3.toInt + 1 := by rw [ex1]; exact i_add (b := 1) (by show -2147483648 ≤ v3.toInt + 1; omega) (by show v3.toInt + 1 ≤ 2147483647; omega)
  refine va_sld hx hb hX hbl hbA hS (vp_in_iff.mpr (by omega)) dL_law_630 ?_
  refine lv_topi (fun y2 ey2 => ?_)
  have htc := fun w h => hts0 w (hwL_X11_why w h)
  refine wiV (C := RX11) (As := [.int y2]) (rest := []) ⟨hx, hb, hml, hown, htc⟩ (fun sz => t_X11_why l D k u hu x m_x k_x y2 sz) (cwV 1 htc gS_X11_why rfl rfl rfl (by decide +kernel) ⟨Nat.le_of_ble_eq_true rfl, Nat.le_of_ble_eq_true rfl⟩) hP hK hD hN hS hA (precv hK hP m_x (cF11 k_x) rfl) rfl hl.1 rfl (Nat.le_of_ble_eq_true rfl) dL_law_631 ⟨by show CC + _ ≤ 600000; omega, by show SS + _ ≤ 7302250; omega⟩ (fun r3 u4 H locs hq hP hD hS => ?_)
  obtain ⟨hu, hxu4, hr3⟩ := hq
  have hR := REL.px m_x k_x m_mm k_mm hR hxu4
  have k_x : u4.2.1 x = 11 := (hxu4 x m_x).2.1.trans k_x
  have m_x : x ∈ u4.1 := (hxu4 x m_x).1
  have k_mm : u4.2.1 mm = 12 := (hxu4 mm m_mm).2.1.trans k_mm
  have m_mm : mm ∈ u4.1 := (hxu4 mm m_mm).1
  refine lv_pop hx hb dL_law_634 rfl ?_
  refine lv_aload_n hx hb dL_law_635 rfl (lv_at hl 2 rfl) ?_
  refine lv_aload_n hx hb dL_law_636 rfl (lv_at hl 0 rfl) ?_
  refine lv_iload_n hx hb dL_law_637 rfl (lv_at hl 3 rfl) ?_
  refine lv_iconst (v := 1) hx hb dL_law_638 (by decide) ?_
  refine lv_iadd hx hb dL_law_639 ?_
  refine lv_topi (fun x5 ex5 => ?_)
  have tx5 : x5.toInt = v3.toInt + 1 := by rw [ex5]; exact i_add (b := 1) (by show -2147483648 ≤ v3.toInt + 1; omega) (by show v3.toInt + 1 ≤ 2147483647; omega)
  refine va_sld hx hb hX hbl hbA hS (vp_in_iff.mpr (by omega)) dL_law_640 ?_
  refine lv_topi (fun y6 ey6 => ?_)
  have qy6 : y6.toInt = y2.toInt := by rw [ey6, ey2, Int32.toInt_inj.mp (show x5.toInt = x1.toInt by omega)]
  have htc := fun w h => hts0 w (hwL_X12_why w h)
  refine wiV (C := RX12) (As := [.int y6]) (rest := []) ⟨hx, hb, hml, hown, htc⟩ (fun sz => t_X12_why l D k u4 hu mm m_mm k_mm y6 sz) (cwV 1 htc gS_X12_why rfl rfl rfl (by decide +kernel) ⟨Nat.le_of_ble_eq_true rfl, Nat.le_of_ble_eq_true rfl⟩) hP hK hD hN hS hA (precv hK hP m_mm (cF12 k_mm) rfl) rfl hl.1 rfl (Nat.le_of_ble_eq_true rfl) dL_law_641 ⟨by show CC + _ ≤ 600000; omega, by show SS + _ ≤ 7302250; omega⟩ (fun r7 u8 H locs hq hP hD hS => ?_)
  obtain ⟨hu, hxu8, hr7⟩ := hq
  have hR := REL.px m_x k_x m_mm k_mm hR hxu8
  have k_x : u8.2.1 x = 11 := (hxu8 x m_x).2.1.trans k_x
  have m_x : x ∈ u8.1 := (hxu8 x m_x).1
  have k_mm : u8.2.1 mm = 12 := (hxu8 mm m_mm).2.1.trans k_mm
  have m_mm : mm ∈ u8.1 := (hxu8 mm m_mm).1
  refine lv_pop hx hb dL_law_644 rfl ?_
  refine lv_goto (tgt := 1769) hx hb dL_law_645 (by decide) ?_
  refine W.widen (k := CC + 389) (n := SS + 3227) (by omega) (by omega) ?_
  exact kk u8 _ _ ls hu m_x k_x m_mm k_mm hR hP hD hS hl
set_option maxHeartbeats 4000000 in
set_option maxRecDepth 100000 in
theorem law_14 {p : Program} {l : Launch} {e : Env} {s : State} {m : MethodId} {below : List Frame} {meth : Method} {c : Code} {b L : Nat} {xs : Nat → Int32} {D : va_G} {k : Nat → ClassId} {tt : TT} (C0 : lw_At p s m meth c b L xs) (hL : L ≤ 3072) (hN : NW s) (hK : va_K D vwCl (TYS k) s) (hE : SX tt (fun q : Nat => s.heap.size ≤ q) s s.heap) {x mm : Nat} {v3 : Int32} {CC SS : Nat} (hv : 0 ≤ v3.toInt ∧ v3.toInt + 6 ≤ L) (hC : CC + 389 ≤ 600000) (hSl : SS + 3227 ≤ 7302250) (kk : ∀ (u : PSt) (H : Heap) (locs : List Loc) (ls : Array Slot), WT u → x ∈ u.1 → u.2.1 x = 11 → mm ∈ u.1 → u.2.1 mm = 12 → REL u x mm → va_P D vwCl (PW k u) H → va_D (fun q : Nat => s.heap.size ≤ q) (PW k u) → va_S (fun q : Nat => s.heap.size ≤ q) s.heap H locs → lv_has ls 4 [(0, .ref b), (1, .ref x), (2, .ref mm), (3, .int v3)] → W p l e room_1 s m #[Value.ref b] below meth c H locs (CC + 389) (SS + 3227) (lw_Z below #[Value.ref b] s) (F0 m 1769 ls [])) {u : PSt} {H : Heap} {locs : List Loc} {ls : Array Slot} (hu : WT u) (m_x : x ∈ u.1) (k_x : u.2.1 x = 11) (m_mm : mm ∈ u.1) (k_mm : u.2.1 mm = 12) (hR : REL u x mm) (hP : va_P D vwCl (PW k u) H) (hD : va_D (fun q : Nat => s.heap.size ≤ q) (PW k u)) (hS : va_S (fun q : Nat => s.heap.size ≤ q) s.heap H locs) (hl : lv_has ls 4 [(0, .ref b), (1, .ref x), (2, .ref mm), (3, .int v3)]) : W p l e room_1 s m #[Value.ref b] below meth c H locs (CC) (SS) (lw_Z below #[Value.ref b] s) (F0 m 648 ls []) := by
  obtain ⟨hx, hb, hr, hml, hown, hts0, hX, hbl, hlocks, hgv⟩ := id C0
  have hA : ∀ q : Nat, s.heap.size ≤ q → (fun q : Nat => s.heap.size ≤ q) q := fun _ h => h
  have hbA : ¬ (fun q : Nat => s.heap.size ≤ q) b := Nat.not_le.mpr hbl
  refine lv_aload_n hx hb dL_law_648 rfl (lv_at hl 1 rfl) ?_
  refine lv_aload_n hx hb dL_law_649 rfl (lv_at hl 0 rfl) ?_
  refine lv_iload_n hx hb dL_law_650 rfl (lv_at hl 3 rfl) ?_
  refine lv_iconst (v := 1) hx hb dL_law_651 (by decide) ?_
  refine lv_iadd hx hb dL_law_652 ?_
  refine lv_topi (fun x1 ex1 => ?_)
  have tx1 : x1.toInt = v3.toInt + 1 := by rw [ex1]; exact i_add (b := 1) (by show -2147483648 ≤ v3.toInt + 1; omega) (by show v3.toInt + 1 ≤ 2147483647; omega)
  refine va_sld hx hb hX hbl hbA hS (vp_in_iff.mpr (by omega)) dL_law_653 ?_
  refine lv_topi (fun y2 ey2 => ?_)
  have htc := fun w h => hts0 w (hwL_X11_bursts w h)
  refine rvi (C := RX11) (As := [.int y2]) (rest := []) ⟨hx, hb, hml, hown, htc⟩ (t_X11_bursts l D k u hu x m_x k_x y2) (cwV 1 htc gS_X11_bursts rfl rfl rfl (by decide +kernel) ⟨Nat.le_of_ble_eq_true rfl, Nat.le_of_ble_eq_true rfl⟩) hP hK (precv hK hP m_x (cF11 k_x) rfl) rfl hl.1 rfl (Nat.le_of_ble_eq_true rfl) dL_law_654 ⟨by show CC ≤ 600000; omega, by show SS ≤ 7302250; omega⟩ (fun r3 hr3 => ?_)
  refine lv_pop hx hb dL_law_657 rfl ?_
  refine lv_aload_n hx hb dL_law_658 rfl (lv_at hl 2 rfl) ?_
  refine lv_aload_n hx hb dL_law_659 rfl (lv_at hl 0 rfl) ?_
  refine lv_iload_n hx hb dL_law_660 rfl (lv_at hl 3 rfl) ?_
  refine lv_iconst (v := 1) hx hb dL_law_661 (by decide) ?_
  refine lv_iadd hx hb dL_law_662 ?_
  refine lv_topi (fun x4 ex4 => ?_)
  have tx4 : x4.toInt = v3.toInt + 1 := by rw [ex4]; exact i_add (b := 1) (by show -2147483648 ≤ v3.toInt + 1; omega) (by show v3.toInt + 1 ≤ 2147483647; omega)
  refine va_sld hx hb hX hbl hbA hS (vp_in_iff.mpr (by omega)) dL_law_663 ?_
  refine lv_topi (fun y5 ey5 => ?_)
  have qy5 : y5.toInt = y2.toInt := by rw [ey5, ey2, Int32.toInt_inj.mp (show x4.toInt = x1.toInt by omega)]
  have htc := fun w h => hts0 w (hwL_X12_bursts w h)
  refine rvi (C := RX12) (As := [.int y5]) (rest := []) ⟨hx, hb, hml, hown, htc⟩ (t_X12_bursts l D k u hu mm m_mm k_mm y5) (cwV 1 htc gS_X12_bursts rfl rfl rfl (by decide +kernel) ⟨Nat.le_of_ble_eq_true rfl, Nat.le_of_ble_eq_true rfl⟩) hP hK (precv hK hP m_mm (cF12 k_mm) rfl) rfl hl.1 rfl (Nat.le_of_ble_eq_true rfl) dL_law_664 ⟨by show CC ≤ 600000; omega, by show SS ≤ 7302250; omega⟩ (fun r6 hr6 => ?_)
  refine lv_pop hx hb dL_law_667 rfl ?_
  refine lv_goto (tgt := 1769) hx hb dL_law_668 (by decide) ?_
  refine W.widen (k := CC + 389) (n := SS + 3227) (by omega) (by omega) ?_
  exact kk u _ _ ls hu m_x k_x m_mm k_mm hR hP hD hS hl
set_option maxHeartbeats 4000000 in
set_option maxRecDepth 100000 in
theorem law_15 {p : Program} {l : Launch} {e : Env} {s : State} {m : MethodId} {below : List Frame} {meth : Method} {c : Code} {b L : Nat} {xs : Nat → Int32} {D : va_G} {k : Nat → ClassId} {tt : TT} (C0 : lw_At p s m meth c b L xs) (hL : L ≤ 3072) (hN : NW s) (hK : va_K D vwCl (TYS k) s) (hE : SX tt (fun q : Nat => s.heap.size ≤ q) s s.heap) {x mm : Nat} {v3 : Int32} {CC SS : Nat} (hv : 0 ≤ v3.toInt ∧ v3.toInt + 6 ≤ L) (hC : CC + 389 ≤ 600000) (hSl : SS + 3227 ≤ 7302250) (kk : ∀ (u : PSt) (H : Heap) (locs : List Loc) (ls : Array Slot), WT u → x ∈ u.1 → u.2.1 x = 11 → mm ∈ u.1 → u.2.1 mm = 12 → REL u x mm → va_P D vwCl (PW k u) H → va_D (fun q : Nat => s.heap.size ≤ q) (PW k u) → va_S (fun q : Nat => s.heap.size ≤ q) s.heap H locs → lv_has ls 4 [(0, .ref b), (1, .ref x), (2, .ref mm), (3, .int v3)] → W p l e room_1 s m #[Value.ref b] below meth c H locs (CC + 389) (SS + 3227) (lw_Z below #[Value.ref b] s) (F0 m 1769 ls [])) {u : PSt} {H : Heap} {locs : List Loc} {ls : Array Slot} (hu : WT u) (m_x : x ∈ u.1) (k_x : u.2.1 x = 11) (m_mm : mm ∈ u.1) (k_mm : u.2.1 mm = 12) (hR : REL u x mm) (hP : va_P D vwCl (PW k u) H) (hD : va_D (fun q : Nat => s.heap.size ≤ q) (PW k u)) (hS : va_S (fun q : Nat => s.heap.size ≤ q) s.heap H locs) (hl : lv_has ls 4 [(0, .ref b), (1, .ref x), (2, .ref mm), (3, .int v3)]) : W p l e room_1 s m #[Value.ref b] below meth c H locs (CC) (SS) (lw_Z below #[Value.ref b] s) (F0 m 671 ls []) := by
  obtain ⟨hx, hb, hr, hml, hown, hts0, hX, hbl, hlocks, hgv⟩ := id C0
  have hA : ∀ q : Nat, s.heap.size ≤ q → (fun q : Nat => s.heap.size ≤ q) q := fun _ h => h
  have hbA : ¬ (fun q : Nat => s.heap.size ≤ q) b := Nat.not_le.mpr hbl
  refine lv_aload_n hx hb dL_law_671 rfl (lv_at hl 1 rfl) ?_
  refine lv_aload_n hx hb dL_law_672 rfl (lv_at hl 0 rfl) ?_
  refine lv_iload_n hx hb dL_law_673 rfl (lv_at hl 3 rfl) ?_
  refine lv_iconst (v := 1) hx hb dL_law_674 (by decide) ?_
  refine lv_iadd hx hb dL_law_675 ?_
  refine lv_topi (fun x1 ex1 => ?_)
  have tx1 : x1.toInt = v3.toInt + 1 := by rw [ex1]; exact i_add (b := 1) (by show -2147483648 ≤ v3.toInt + 1; omega) (by show v3.toInt + 1 ≤ 2147483647; omega)
  refine va_sld hx hb hX hbl hbA hS (vp_in_iff.mpr (by omega)) dL_law_676 ?_
  refine lv_topi (fun y2 ey2 => ?_)
  have htc := fun w h => hts0 w (hwL_X11_first w h)
  refine wiV (C := RX11) (As := [.int y2]) (rest := []) ⟨hx, hb, hml, hown, htc⟩ (fun sz => t_X11_first l D k u hu x m_x k_x y2 sz) (cwV 1 htc gS_X11_first rfl rfl rfl (by decide +kernel) ⟨Nat.le_of_ble_eq_true rfl, Nat.le_of_ble_eq_true rfl⟩) hP hK hD hN hS hA (precv hK hP m_x (cF11 k_x) rfl) rfl hl.1 rfl (Nat.le_of_ble_eq_true rfl) dL_law_677 ⟨by show CC + _ ≤ 600000; omega, by show SS + _ ≤ 7302250; omega⟩ (fun r3 u4 H locs hq hP hD hS => ?_)
  obtain ⟨hu, hxu4, hr3⟩ := hq
  have hR := REL.px m_x k_x m_mm k_mm hR hxu4
  have k_x : u4.2.1 x = 11 := (hxu4 x m_x).2.1.trans k_x
  have m_x : x ∈ u4.1 := (hxu4 x m_x).1
  have k_mm : u4.2.1 mm = 12 := (hxu4 mm m_mm).2.1.trans k_mm
  have m_mm : mm ∈ u4.1 := (hxu4 mm m_mm).1
  refine lv_pop hx hb dL_law_680 rfl ?_
  refine lv_aload_n hx hb dL_law_681 rfl (lv_at hl 2 rfl) ?_
  refine lv_aload_n hx hb dL_law_682 rfl (lv_at hl 0 rfl) ?_
  refine lv_iload_n hx hb dL_law_683 rfl (lv_at hl 3 rfl) ?_
  refine lv_iconst (v := 1) hx hb dL_law_684 (by decide) ?_
  refine lv_iadd hx hb dL_law_685 ?_
  refine lv_topi (fun x5 ex5 => ?_)
  have tx5 : x5.toInt = v3.toInt + 1 := by rw [ex5]; exact i_add (b := 1) (by show -2147483648 ≤ v3.toInt + 1; omega) (by show v3.toInt + 1 ≤ 2147483647; omega)
  refine va_sld hx hb hX hbl hbA hS (vp_in_iff.mpr (by omega)) dL_law_686 ?_
  refine lv_topi (fun y6 ey6 => ?_)
  have qy6 : y6.toInt = y2.toInt := by rw [ey6, ey2, Int32.toInt_inj.mp (show x5.toInt = x1.toInt by omega)]
  have htc := fun w h => hts0 w (hwL_X12_first w h)
  refine wiV (C := RX12) (As := [.int y6]) (rest := []) ⟨hx, hb, hml, hown, htc⟩ (fun sz => t_X12_first l D k u4 hu mm m_mm k_mm y6 sz) (cwV 1 htc gS_X12_first rfl rfl rfl (by decide +kernel) ⟨Nat.le_of_ble_eq_true rfl, Nat.le_of_ble_eq_true rfl⟩) hP hK hD hN hS hA (precv hK hP m_mm (cF12 k_mm) rfl) rfl hl.1 rfl (Nat.le_of_ble_eq_true rfl) dL_law_687 ⟨by show CC + _ ≤ 600000; omega, by show SS + _ ≤ 7302250; omega⟩ (fun r7 u8 H locs hq hP hD hS => ?_)
  obtain ⟨hu, hxu8, hr7⟩ := hq
  have hR := REL.px m_x k_x m_mm k_mm hR hxu8
  have k_x : u8.2.1 x = 11 := (hxu8 x m_x).2.1.trans k_x
  have m_x : x ∈ u8.1 := (hxu8 x m_x).1
  have k_mm : u8.2.1 mm = 12 := (hxu8 mm m_mm).2.1.trans k_mm
  have m_mm : mm ∈ u8.1 := (hxu8 mm m_mm).1
  refine lv_pop hx hb dL_law_690 rfl ?_
  refine lv_goto (tgt := 1769) hx hb dL_law_691 (by decide) ?_
  refine W.widen (k := CC + 389) (n := SS + 3227) (by omega) (by omega) ?_
  exact kk u8 _ _ ls hu m_x k_x m_mm k_mm hR hP hD hS hl
set_option maxHeartbeats 4000000 in
set_option maxRecDepth 100000 in
theorem law_16 {p : Program} {l : Launch} {e : Env} {s : State} {m : MethodId} {below : List Frame} {meth : Method} {c : Code} {b L : Nat} {xs : Nat → Int32} {D : va_G} {k : Nat → ClassId} {tt : TT} (C0 : lw_At p s m meth c b L xs) (hL : L ≤ 3072) (hN : NW s) (hK : va_K D vwCl (TYS k) s) (hE : SX tt (fun q : Nat => s.heap.size ≤ q) s s.heap) {x mm : Nat} {v3 : Int32} {CC SS : Nat} (hv : 0 ≤ v3.toInt ∧ v3.toInt + 6 ≤ L) (hC : CC + 389 ≤ 600000) (hSl : SS + 3227 ≤ 7302250) (kk : ∀ (u : PSt) (H : Heap) (locs : List Loc) (ls : Array Slot), WT u → x ∈ u.1 → u.2.1 x = 11 → mm ∈ u.1 → u.2.1 mm = 12 → REL u x mm → va_P D vwCl (PW k u) H → va_D (fun q : Nat => s.heap.size ≤ q) (PW k u) → va_S (fun q : Nat => s.heap.size ≤ q) s.heap H locs → lv_has ls 4 [(0, .ref b), (1, .ref x), (2, .ref mm), (3, .int v3)] → W p l e room_1 s m #[Value.ref b] below meth c H locs (CC + 389) (SS + 3227) (lw_Z below #[Value.ref b] s) (F0 m 1769 ls [])) {u : PSt} {H : Heap} {locs : List Loc} {ls : Array Slot} (hu : WT u) (m_x : x ∈ u.1) (k_x : u.2.1 x = 11) (m_mm : mm ∈ u.1) (k_mm : u.2.1 mm = 12) (hR : REL u x mm) (hP : va_P D vwCl (PW k u) H) (hD : va_D (fun q : Nat => s.heap.size ≤ q) (PW k u)) (hS : va_S (fun q : Nat => s.heap.size ≤ q) s.heap H locs) (hl : lv_has ls 4 [(0, .ref b), (1, .ref x), (2, .ref mm), (3, .int v3)]) : W p l e room_1 s m #[Value.ref b] below meth c H locs (CC) (SS) (lw_Z below #[Value.ref b] s) (F0 m 694 ls []) := by
  obtain ⟨hx, hb, hr, hml, hown, hts0, hX, hbl, hlocks, hgv⟩ := id C0
  have hA : ∀ q : Nat, s.heap.size ≤ q → (fun q : Nat => s.heap.size ≤ q) q := fun _ h => h
  have hbA : ¬ (fun q : Nat => s.heap.size ≤ q) b := Nat.not_le.mpr hbl
  refine lv_aload_n hx hb dL_law_694 rfl (lv_at hl 1 rfl) ?_
  refine lv_aload_n hx hb dL_law_695 rfl (lv_at hl 0 rfl) ?_
  refine lv_iload_n hx hb dL_law_696 rfl (lv_at hl 3 rfl) ?_
  refine lv_iconst (v := 1) hx hb dL_law_697 (by decide) ?_
  refine lv_iadd hx hb dL_law_698 ?_
  refine lv_topi (fun x1 ex1 => ?_)
  have tx1 : x1.toInt = v3.toInt + 1 := by rw [ex1]; exact i_add (b := 1) (by show -2147483648 ≤ v3.toInt + 1; omega) (by show v3.toInt + 1 ≤ 2147483647; omega)
  refine va_sld hx hb hX hbl hbA hS (vp_in_iff.mpr (by omega)) dL_law_699 ?_
  refine lv_topi (fun y2 ey2 => ?_)
  refine lv_aload_n hx hb dL_law_700 rfl (lv_at hl 0 rfl) ?_
  refine lv_iload_n hx hb dL_law_701 rfl (lv_at hl 3 rfl) ?_
  refine lv_iconst (v := 2) hx hb dL_law_702 (by decide) ?_
  refine lv_iadd hx hb dL_law_703 ?_
  refine lv_topi (fun x3 ex3 => ?_)
  have tx3 : x3.toInt = v3.toInt + 2 := by rw [ex3]; exact i_add (b := 2) (by show -2147483648 ≤ v3.toInt + 2; omega) (by show v3.toInt + 2 ≤ 2147483647; omega)
  refine va_sld hx hb hX hbl hbA hS (vp_in_iff.mpr (by omega)) dL_law_704 ?_
  refine lv_topi (fun y4 ey4 => ?_)
  have htc := fun w h => hts0 w (hwL_X11_next w h)
  refine wiV (C := RX11) (As := [.int y2, .int y4]) (rest := []) ⟨hx, hb, hml, hown, htc⟩ (fun sz => t_X11_next l D k u hu x m_x k_x y2 y4 sz) (cwV 2 htc gS_X11_next rfl rfl rfl (by decide +kernel) ⟨Nat.le_of_ble_eq_true rfl, Nat.le_of_ble_eq_true rfl⟩) hP hK hD hN hS hA (precv hK hP m_x (cF11 k_x) rfl) rfl hl.1 rfl (Nat.le_of_ble_eq_true rfl) dL_law_705 ⟨by show CC + _ ≤ 600000; omega, by show SS + _ ≤ 7302250; omega⟩ (fun r5 u6 H locs hq hP hD hS => ?_)
  obtain ⟨hu, hxu6, hr5⟩ := hq
  have hR := REL.px m_x k_x m_mm k_mm hR hxu6
  have k_x : u6.2.1 x = 11 := (hxu6 x m_x).2.1.trans k_x
  have m_x : x ∈ u6.1 := (hxu6 x m_x).1
  have k_mm : u6.2.1 mm = 12 := (hxu6 mm m_mm).2.1.trans k_mm
  have m_mm : mm ∈ u6.1 := (hxu6 mm m_mm).1
  refine lv_pop hx hb dL_law_708 rfl ?_
  refine lv_aload_n hx hb dL_law_709 rfl (lv_at hl 2 rfl) ?_
  refine lv_aload_n hx hb dL_law_710 rfl (lv_at hl 0 rfl) ?_
  refine lv_iload_n hx hb dL_law_711 rfl (lv_at hl 3 rfl) ?_
  refine lv_iconst (v := 1) hx hb dL_law_712 (by decide) ?_
  refine lv_iadd hx hb dL_law_713 ?_
  refine lv_topi (fun x7 ex7 => ?_)
  have tx7 : x7.toInt = v3.toInt + 1 := by rw [ex7]; exact i_add (b := 1) (by show -2147483648 ≤ v3.toInt + 1; omega) (by show v3.toInt + 1 ≤ 2147483647; omega)
  refine va_sld hx hb hX hbl hbA hS (vp_in_iff.mpr (by omega)) dL_law_714 ?_
  refine lv_topi (fun y8 ey8 => ?_)
  have qy8 : y8.toInt = y2.toInt := by rw [ey8, ey2, Int32.toInt_inj.mp (show x7.toInt = x1.toInt by omega)]
  refine lv_aload_n hx hb dL_law_715 rfl (lv_at hl 0 rfl) ?_
  refine lv_iload_n hx hb dL_law_716 rfl (lv_at hl 3 rfl) ?_
  refine lv_iconst (v := 2) hx hb dL_law_717 (by decide) ?_
  refine lv_iadd hx hb dL_law_718 ?_
  refine lv_topi (fun x9 ex9 => ?_)
  have tx9 : x9.toInt = v3.toInt + 2 := by rw [ex9]; exact i_add (b := 2) (by show -2147483648 ≤ v3.toInt + 2; omega) (by show v3.toInt + 2 ≤ 2147483647; omega)
  refine va_sld hx hb hX hbl hbA hS (vp_in_iff.mpr (by omega)) dL_law_719 ?_
  refine lv_topi (fun y10 ey10 => ?_)
  have qy10 : y10.toInt = y4.toInt := by rw [ey10, ey4, Int32.toInt_inj.mp (show x9.toInt = x3.toInt by omega)]
  have htc := fun w h => hts0 w (hwL_X12_next w h)
  refine wiV (C := RX12) (As := [.int y8, .int y10]) (rest := []) ⟨hx, hb, hml, hown, htc⟩ (fun sz => t_X12_next l D k u6 hu mm m_mm k_mm y8 y10 sz) (cwV 2 htc gS_X12_next rfl rfl rfl (by decide +kernel) ⟨Nat.le_of_ble_eq_true rfl, Nat.le_of_ble_eq_true rfl⟩) hP hK hD hN hS hA (precv hK hP m_mm (cF12 k_mm) rfl) rfl hl.1 rfl (Nat.le_of_ble_eq_true rfl) dL_law_720 ⟨by show CC + _ ≤ 600000; omega, by show SS + _ ≤ 7302250; omega⟩ (fun r11 u12 H locs hq hP hD hS => ?_)
  obtain ⟨hu, hxu12, hr11⟩ := hq
  have hR := REL.px m_x k_x m_mm k_mm hR hxu12
  have k_x : u12.2.1 x = 11 := (hxu12 x m_x).2.1.trans k_x
  have m_x : x ∈ u12.1 := (hxu12 x m_x).1
  have k_mm : u12.2.1 mm = 12 := (hxu12 mm m_mm).2.1.trans k_mm
  have m_mm : mm ∈ u12.1 := (hxu12 mm m_mm).1
  refine lv_pop hx hb dL_law_723 rfl ?_
  refine lv_goto (tgt := 1769) hx hb dL_law_724 (by decide) ?_
  refine W.widen (k := CC + 389) (n := SS + 3227) (by omega) (by omega) ?_
  exact kk u12 _ _ ls hu m_x k_x m_mm k_mm hR hP hD hS hl
set_option maxHeartbeats 4000000 in
set_option maxRecDepth 100000 in
theorem law_17 {p : Program} {l : Launch} {e : Env} {s : State} {m : MethodId} {below : List Frame} {meth : Method} {c : Code} {b L : Nat} {xs : Nat → Int32} {D : va_G} {k : Nat → ClassId} {tt : TT} (C0 : lw_At p s m meth c b L xs) (hL : L ≤ 3072) (hN : NW s) (hK : va_K D vwCl (TYS k) s) (hE : SX tt (fun q : Nat => s.heap.size ≤ q) s s.heap) {x mm : Nat} {v3 : Int32} {CC SS : Nat} (hv : 0 ≤ v3.toInt ∧ v3.toInt + 6 ≤ L) (hC : CC + 389 ≤ 600000) (hSl : SS + 3227 ≤ 7302250) (kk : ∀ (u : PSt) (H : Heap) (locs : List Loc) (ls : Array Slot), WT u → x ∈ u.1 → u.2.1 x = 11 → mm ∈ u.1 → u.2.1 mm = 12 → REL u x mm → va_P D vwCl (PW k u) H → va_D (fun q : Nat => s.heap.size ≤ q) (PW k u) → va_S (fun q : Nat => s.heap.size ≤ q) s.heap H locs → lv_has ls 4 [(0, .ref b), (1, .ref x), (2, .ref mm), (3, .int v3)] → W p l e room_1 s m #[Value.ref b] below meth c H locs (CC + 389) (SS + 3227) (lw_Z below #[Value.ref b] s) (F0 m 1769 ls [])) {u : PSt} {H : Heap} {locs : List Loc} {ls : Array Slot} (hu : WT u) (m_x : x ∈ u.1) (k_x : u.2.1 x = 11) (m_mm : mm ∈ u.1) (k_mm : u.2.1 mm = 12) (hR : REL u x mm) (hP : va_P D vwCl (PW k u) H) (hD : va_D (fun q : Nat => s.heap.size ≤ q) (PW k u)) (hS : va_S (fun q : Nat => s.heap.size ≤ q) s.heap H locs) (hl : lv_has ls 4 [(0, .ref b), (1, .ref x), (2, .ref mm), (3, .int v3)]) : W p l e room_1 s m #[Value.ref b] below meth c H locs (CC) (SS) (lw_Z below #[Value.ref b] s) (F0 m 727 ls []) := by
  obtain ⟨hx, hb, hr, hml, hown, hts0, hX, hbl, hlocks, hgv⟩ := id C0
  have hA : ∀ q : Nat, s.heap.size ≤ q → (fun q : Nat => s.heap.size ≤ q) q := fun _ h => h
  have hbA : ¬ (fun q : Nat => s.heap.size ≤ q) b := Nat.not_le.mpr hbl
  refine lv_aload_n hx hb dL_law_727 rfl (lv_at hl 1 rfl) ?_
  refine lv_aload_n hx hb dL_law_728 rfl (lv_at hl 0 rfl) ?_
  refine lv_iload_n hx hb dL_law_729 rfl (lv_at hl 3 rfl) ?_
  refine lv_iconst (v := 1) hx hb dL_law_730 (by decide) ?_
  refine lv_iadd hx hb dL_law_731 ?_
  refine lv_topi (fun x1 ex1 => ?_)
  have tx1 : x1.toInt = v3.toInt + 1 := by rw [ex1]; exact i_add (b := 1) (by show -2147483648 ≤ v3.toInt + 1; omega) (by show v3.toInt + 1 ≤ 2147483647; omega)
  refine va_sld hx hb hX hbl hbA hS (vp_in_iff.mpr (by omega)) dL_law_732 ?_
  refine lv_topi (fun y2 ey2 => ?_)
  refine lv_aload_n hx hb dL_law_733 rfl (lv_at hl 0 rfl) ?_
  refine lv_iload_n hx hb dL_law_734 rfl (lv_at hl 3 rfl) ?_
  refine lv_iconst (v := 2) hx hb dL_law_735 (by decide) ?_
  refine lv_iadd hx hb dL_law_736 ?_
  refine lv_topi (fun x3 ex3 => ?_)
  have tx3 : x3.toInt = v3.toInt + 2 := by rw [ex3]; exact i_add (b := 2) (by show -2147483648 ≤ v3.toInt + 2; omega) (by show v3.toInt + 2 ≤ 2147483647; omega)
  refine va_sld hx hb hX hbl hbA hS (vp_in_iff.mpr (by omega)) dL_law_737 ?_
  refine lv_topi (fun y4 ey4 => ?_)
  have htc := fun w h => hts0 w (hwL_X11_under w h)
  refine wiV (C := RX11) (As := [.int y2, .int y4]) (rest := []) ⟨hx, hb, hml, hown, htc⟩ (fun sz => t_X11_under l D k u hu x m_x k_x y2 y4 sz) (cwV 2 htc gS_X11_under rfl rfl rfl (by decide +kernel) ⟨Nat.le_of_ble_eq_true rfl, Nat.le_of_ble_eq_true rfl⟩) hP hK hD hN hS hA (precv hK hP m_x (cF11 k_x) rfl) rfl hl.1 rfl (Nat.le_of_ble_eq_true rfl) dL_law_738 ⟨by show CC + _ ≤ 600000; omega, by show SS + _ ≤ 7302250; omega⟩ (fun r5 u6 H locs hq hP hD hS => ?_)
  obtain ⟨hu, hxu6, hr5⟩ := hq
  have hR := REL.px m_x k_x m_mm k_mm hR hxu6
  have k_x : u6.2.1 x = 11 := (hxu6 x m_x).2.1.trans k_x
  have m_x : x ∈ u6.1 := (hxu6 x m_x).1
  have k_mm : u6.2.1 mm = 12 := (hxu6 mm m_mm).2.1.trans k_mm
  have m_mm : mm ∈ u6.1 := (hxu6 mm m_mm).1
  refine lv_pop hx hb dL_law_741 rfl ?_
  refine lv_aload_n hx hb dL_law_742 rfl (lv_at hl 2 rfl) ?_
  refine lv_aload_n hx hb dL_law_743 rfl (lv_at hl 0 rfl) ?_
  refine lv_iload_n hx hb dL_law_744 rfl (lv_at hl 3 rfl) ?_
  refine lv_iconst (v := 1) hx hb dL_law_745 (by decide) ?_
  refine lv_iadd hx hb dL_law_746 ?_
  refine lv_topi (fun x7 ex7 => ?_)
  have tx7 : x7.toInt = v3.toInt + 1 := by rw [ex7]; exact i_add (b := 1) (by show -2147483648 ≤ v3.toInt + 1; omega) (by show v3.toInt + 1 ≤ 2147483647; omega)
  refine va_sld hx hb hX hbl hbA hS (vp_in_iff.mpr (by omega)) dL_law_747 ?_
  refine lv_topi (fun y8 ey8 => ?_)
  have qy8 : y8.toInt = y2.toInt := by rw [ey8, ey2, Int32.toInt_inj.mp (show x7.toInt = x1.toInt by omega)]
  refine lv_aload_n hx hb dL_law_748 rfl (lv_at hl 0 rfl) ?_
  refine lv_iload_n hx hb dL_law_749 rfl (lv_at hl 3 rfl) ?_
  refine lv_iconst (v := 2) hx hb dL_law_750 (by decide) ?_
  refine lv_iadd hx hb dL_law_751 ?_
  refine lv_topi (fun x9 ex9 => ?_)
  have tx9 : x9.toInt = v3.toInt + 2 := by rw [ex9]; exact i_add (b := 2) (by show -2147483648 ≤ v3.toInt + 2; omega) (by show v3.toInt + 2 ≤ 2147483647; omega)
  refine va_sld hx hb hX hbl hbA hS (vp_in_iff.mpr (by omega)) dL_law_752 ?_
  refine lv_topi (fun y10 ey10 => ?_)
  have qy10 : y10.toInt = y4.toInt := by rw [ey10, ey4, Int32.toInt_inj.mp (show x9.toInt = x3.toInt by omega)]
  have htc := fun w h => hts0 w (hwL_X12_under w h)
  refine wiV (C := RX12) (As := [.int y8, .int y10]) (rest := []) ⟨hx, hb, hml, hown, htc⟩ (fun sz => t_X12_under l D k u6 hu mm m_mm k_mm y8 y10 sz) (cwV 2 htc gS_X12_under rfl rfl rfl (by decide +kernel) ⟨Nat.le_of_ble_eq_true rfl, Nat.le_of_ble_eq_true rfl⟩) hP hK hD hN hS hA (precv hK hP m_mm (cF12 k_mm) rfl) rfl hl.1 rfl (Nat.le_of_ble_eq_true rfl) dL_law_753 ⟨by show CC + _ ≤ 600000; omega, by show SS + _ ≤ 7302250; omega⟩ (fun r11 u12 H locs hq hP hD hS => ?_)
  obtain ⟨hu, hxu12, hr11⟩ := hq
  have hR := REL.px m_x k_x m_mm k_mm hR hxu12
  have k_x : u12.2.1 x = 11 := (hxu12 x m_x).2.1.trans k_x
  have m_x : x ∈ u12.1 := (hxu12 x m_x).1
  have k_mm : u12.2.1 mm = 12 := (hxu12 mm m_mm).2.1.trans k_mm
  have m_mm : mm ∈ u12.1 := (hxu12 mm m_mm).1
  refine lv_pop hx hb dL_law_756 rfl ?_
  refine lv_goto (tgt := 1769) hx hb dL_law_757 (by decide) ?_
  refine W.widen (k := CC + 389) (n := SS + 3227) (by omega) (by omega) ?_
  exact kk u12 _ _ ls hu m_x k_x m_mm k_mm hR hP hD hS hl
set_option maxHeartbeats 4000000 in
set_option maxRecDepth 100000 in
theorem law_18 {p : Program} {l : Launch} {e : Env} {s : State} {m : MethodId} {below : List Frame} {meth : Method} {c : Code} {b L : Nat} {xs : Nat → Int32} {D : va_G} {k : Nat → ClassId} {tt : TT} (C0 : lw_At p s m meth c b L xs) (hL : L ≤ 3072) (hN : NW s) (hK : va_K D vwCl (TYS k) s) (hE : SX tt (fun q : Nat => s.heap.size ≤ q) s s.heap) {x mm : Nat} {v3 : Int32} {CC SS : Nat} (hv : 0 ≤ v3.toInt ∧ v3.toInt + 6 ≤ L) (hC : CC + 389 ≤ 600000) (hSl : SS + 3227 ≤ 7302250) (kk : ∀ (u : PSt) (H : Heap) (locs : List Loc) (ls : Array Slot), WT u → x ∈ u.1 → u.2.1 x = 11 → mm ∈ u.1 → u.2.1 mm = 12 → REL u x mm → va_P D vwCl (PW k u) H → va_D (fun q : Nat => s.heap.size ≤ q) (PW k u) → va_S (fun q : Nat => s.heap.size ≤ q) s.heap H locs → lv_has ls 4 [(0, .ref b), (1, .ref x), (2, .ref mm), (3, .int v3)] → W p l e room_1 s m #[Value.ref b] below meth c H locs (CC + 389) (SS + 3227) (lw_Z below #[Value.ref b] s) (F0 m 1769 ls [])) {u : PSt} {H : Heap} {locs : List Loc} {ls : Array Slot} (hu : WT u) (m_x : x ∈ u.1) (k_x : u.2.1 x = 11) (m_mm : mm ∈ u.1) (k_mm : u.2.1 mm = 12) (hR : REL u x mm) (hP : va_P D vwCl (PW k u) H) (hD : va_D (fun q : Nat => s.heap.size ≤ q) (PW k u)) (hS : va_S (fun q : Nat => s.heap.size ≤ q) s.heap H locs) (hl : lv_has ls 4 [(0, .ref b), (1, .ref x), (2, .ref mm), (3, .int v3)]) : W p l e room_1 s m #[Value.ref b] below meth c H locs (CC) (SS) (lw_Z below #[Value.ref b] s) (F0 m 760 ls []) := by
  obtain ⟨hx, hb, hr, hml, hown, hts0, hX, hbl, hlocks, hgv⟩ := id C0
  have hA : ∀ q : Nat, s.heap.size ≤ q → (fun q : Nat => s.heap.size ≤ q) q := fun _ h => h
  have hbA : ¬ (fun q : Nat => s.heap.size ≤ q) b := Nat.not_le.mpr hbl
  refine lv_aload_n hx hb dL_law_760 rfl (lv_at hl 1 rfl) ?_
  refine lv_aload_n hx hb dL_law_761 rfl (lv_at hl 0 rfl) ?_
  refine lv_iload_n hx hb dL_law_762 rfl (lv_at hl 3 rfl) ?_
  refine lv_iconst (v := 1) hx hb dL_law_763 (by decide) ?_
  refine lv_iadd hx hb dL_law_764 ?_
  refine lv_topi (fun x1 ex1 => ?_)
  have tx1 : x1.toInt = v3.toInt + 1 := by rw [ex1]; exact i_add (b := 1) (by show -2147483648 ≤ v3.toInt + 1; omega) (by show v3.toInt + 1 ≤ 2147483647; omega)
  refine va_sld hx hb hX hbl hbA hS (vp_in_iff.mpr (by omega)) dL_law_765 ?_
  refine lv_topi (fun y2 ey2 => ?_)
  have htc := fun w h => hts0 w (hwL_X11_stay w h)
  refine wiV (C := RX11) (As := [.int y2]) (rest := []) ⟨hx, hb, hml, hown, htc⟩ (fun sz => t_X11_stay l D k u hu x m_x k_x y2 sz) (cwV 1 htc gS_X11_stay rfl rfl rfl (by decide +kernel) ⟨Nat.le_of_ble_eq_true rfl, Nat.le_of_ble_eq_true rfl⟩) hP hK hD hN hS hA (precv hK hP m_x (cF11 k_x) rfl) rfl hl.1 rfl (Nat.le_of_ble_eq_true rfl) dL_law_766 ⟨by show CC + _ ≤ 600000; omega, by show SS + _ ≤ 7302250; omega⟩ (fun r3 u4 H locs hq hP hD hS => ?_)
  obtain ⟨hu, hxu4, hr3⟩ := hq
  have hR := REL.px m_x k_x m_mm k_mm hR hxu4
  have k_x : u4.2.1 x = 11 := (hxu4 x m_x).2.1.trans k_x
  have m_x : x ∈ u4.1 := (hxu4 x m_x).1
  have k_mm : u4.2.1 mm = 12 := (hxu4 mm m_mm).2.1.trans k_mm
  have m_mm : mm ∈ u4.1 := (hxu4 mm m_mm).1
  refine lv_pop hx hb dL_law_769 rfl ?_
  refine lv_aload_n hx hb dL_law_770 rfl (lv_at hl 2 rfl) ?_
  refine lv_aload_n hx hb dL_law_771 rfl (lv_at hl 0 rfl) ?_
  refine lv_iload_n hx hb dL_law_772 rfl (lv_at hl 3 rfl) ?_
  refine lv_iconst (v := 1) hx hb dL_law_773 (by decide) ?_
  refine lv_iadd hx hb dL_law_774 ?_
  refine lv_topi (fun x5 ex5 => ?_)
  have tx5 : x5.toInt = v3.toInt + 1 := by rw [ex5]; exact i_add (b := 1) (by show -2147483648 ≤ v3.toInt + 1; omega) (by show v3.toInt + 1 ≤ 2147483647; omega)
  refine va_sld hx hb hX hbl hbA hS (vp_in_iff.mpr (by omega)) dL_law_775 ?_
  refine lv_topi (fun y6 ey6 => ?_)
  have qy6 : y6.toInt = y2.toInt := by rw [ey6, ey2, Int32.toInt_inj.mp (show x5.toInt = x1.toInt by omega)]
  have htc := fun w h => hts0 w (hwL_X12_stay w h)
  refine wiV (C := RX12) (As := [.int y6]) (rest := []) ⟨hx, hb, hml, hown, htc⟩ (fun sz => t_X12_stay l D k u4 hu mm m_mm k_mm y6 sz) (cwV 1 htc gS_X12_stay rfl rfl rfl (by decide +kernel) ⟨Nat.le_of_ble_eq_true rfl, Nat.le_of_ble_eq_true rfl⟩) hP hK hD hN hS hA (precv hK hP m_mm (cF12 k_mm) rfl) rfl hl.1 rfl (Nat.le_of_ble_eq_true rfl) dL_law_776 ⟨by show CC + _ ≤ 600000; omega, by show SS + _ ≤ 7302250; omega⟩ (fun r7 u8 H locs hq hP hD hS => ?_)
  obtain ⟨hu, hxu8, hr7⟩ := hq
  have hR := REL.px m_x k_x m_mm k_mm hR hxu8
  have k_x : u8.2.1 x = 11 := (hxu8 x m_x).2.1.trans k_x
  have m_x : x ∈ u8.1 := (hxu8 x m_x).1
  have k_mm : u8.2.1 mm = 12 := (hxu8 mm m_mm).2.1.trans k_mm
  have m_mm : mm ∈ u8.1 := (hxu8 mm m_mm).1
  refine lv_pop hx hb dL_law_779 rfl ?_
  refine lv_goto (tgt := 1769) hx hb dL_law_780 (by decide) ?_
  refine W.widen (k := CC + 389) (n := SS + 3227) (by omega) (by omega) ?_
  exact kk u8 _ _ ls hu m_x k_x m_mm k_mm hR hP hD hS hl
set_option maxHeartbeats 4000000 in
set_option maxRecDepth 100000 in
theorem law_19 {p : Program} {l : Launch} {e : Env} {s : State} {m : MethodId} {below : List Frame} {meth : Method} {c : Code} {b L : Nat} {xs : Nat → Int32} {D : va_G} {k : Nat → ClassId} {tt : TT} (C0 : lw_At p s m meth c b L xs) (hL : L ≤ 3072) (hN : NW s) (hK : va_K D vwCl (TYS k) s) (hE : SX tt (fun q : Nat => s.heap.size ≤ q) s s.heap) {x mm : Nat} {v3 : Int32} {CC SS : Nat} (hv : 0 ≤ v3.toInt ∧ v3.toInt + 6 ≤ L) (hC : CC + 389 ≤ 600000) (hSl : SS + 3227 ≤ 7302250) (kk : ∀ (u : PSt) (H : Heap) (locs : List Loc) (ls : Array Slot), WT u → x ∈ u.1 → u.2.1 x = 11 → mm ∈ u.1 → u.2.1 mm = 12 → REL u x mm → va_P D vwCl (PW k u) H → va_D (fun q : Nat => s.heap.size ≤ q) (PW k u) → va_S (fun q : Nat => s.heap.size ≤ q) s.heap H locs → lv_has ls 4 [(0, .ref b), (1, .ref x), (2, .ref mm), (3, .int v3)] → W p l e room_1 s m #[Value.ref b] below meth c H locs (CC + 389) (SS + 3227) (lw_Z below #[Value.ref b] s) (F0 m 1769 ls [])) {u : PSt} {H : Heap} {locs : List Loc} {ls : Array Slot} (hu : WT u) (m_x : x ∈ u.1) (k_x : u.2.1 x = 11) (m_mm : mm ∈ u.1) (k_mm : u.2.1 mm = 12) (hR : REL u x mm) (hP : va_P D vwCl (PW k u) H) (hD : va_D (fun q : Nat => s.heap.size ≤ q) (PW k u)) (hS : va_S (fun q : Nat => s.heap.size ≤ q) s.heap H locs) (hl : lv_has ls 4 [(0, .ref b), (1, .ref x), (2, .ref mm), (3, .int v3)]) : W p l e room_1 s m #[Value.ref b] below meth c H locs (CC) (SS) (lw_Z below #[Value.ref b] s) (F0 m 783 ls []) := by
  obtain ⟨hx, hb, hr, hml, hown, hts0, hX, hbl, hlocks, hgv⟩ := id C0
  have hA : ∀ q : Nat, s.heap.size ≤ q → (fun q : Nat => s.heap.size ≤ q) q := fun _ h => h
  have hbA : ¬ (fun q : Nat => s.heap.size ≤ q) b := Nat.not_le.mpr hbl
  refine lv_aload_n hx hb dL_law_783 rfl (lv_at hl 1 rfl) ?_
  refine lv_aload_n hx hb dL_law_784 rfl (lv_at hl 0 rfl) ?_
  refine lv_iload_n hx hb dL_law_785 rfl (lv_at hl 3 rfl) ?_
  refine lv_iconst (v := 1) hx hb dL_law_786 (by decide) ?_
  refine lv_iadd hx hb dL_law_787 ?_
  refine lv_topi (fun x1 ex1 => ?_)
  have tx1 : x1.toInt = v3.toInt + 1 := by rw [ex1]; exact i_add (b := 1) (by show -2147483648 ≤ v3.toInt + 1; omega) (by show v3.toInt + 1 ≤ 2147483647; omega)
  refine va_sld hx hb hX hbl hbA hS (vp_in_iff.mpr (by omega)) dL_law_788 ?_
  refine lv_topi (fun y2 ey2 => ?_)
  have htc := fun w h => hts0 w (hwL_X11_cap w h)
  refine wiV (C := RX11) (As := [.int y2]) (rest := []) ⟨hx, hb, hml, hown, htc⟩ (fun sz => t_X11_cap l D k u hu x m_x k_x y2 sz) (cwV 1 htc gS_X11_cap rfl rfl rfl (by decide +kernel) ⟨Nat.le_of_ble_eq_true rfl, Nat.le_of_ble_eq_true rfl⟩) hP hK hD hN hS hA (precv hK hP m_x (cF11 k_x) rfl) rfl hl.1 rfl (Nat.le_of_ble_eq_true rfl) dL_law_789 ⟨by show CC + _ ≤ 600000; omega, by show SS + _ ≤ 7302250; omega⟩ (fun r3 u4 H locs hq hP hD hS => ?_)
  obtain ⟨hu, hxu4, hr3⟩ := hq
  have hR := REL.px m_x k_x m_mm k_mm hR hxu4
  have k_x : u4.2.1 x = 11 := (hxu4 x m_x).2.1.trans k_x
  have m_x : x ∈ u4.1 := (hxu4 x m_x).1
  have k_mm : u4.2.1 mm = 12 := (hxu4 mm m_mm).2.1.trans k_mm
  have m_mm : mm ∈ u4.1 := (hxu4 mm m_mm).1
  refine lv_pop hx hb dL_law_792 rfl ?_
  refine lv_aload_n hx hb dL_law_793 rfl (lv_at hl 2 rfl) ?_
  refine lv_aload_n hx hb dL_law_794 rfl (lv_at hl 0 rfl) ?_
  refine lv_iload_n hx hb dL_law_795 rfl (lv_at hl 3 rfl) ?_
  refine lv_iconst (v := 1) hx hb dL_law_796 (by decide) ?_
  refine lv_iadd hx hb dL_law_797 ?_
  refine lv_topi (fun x5 ex5 => ?_)
  have tx5 : x5.toInt = v3.toInt + 1 := by rw [ex5]; exact i_add (b := 1) (by show -2147483648 ≤ v3.toInt + 1; omega) (by show v3.toInt + 1 ≤ 2147483647; omega)
  refine va_sld hx hb hX hbl hbA hS (vp_in_iff.mpr (by omega)) dL_law_798 ?_
  refine lv_topi (fun y6 ey6 => ?_)
  have qy6 : y6.toInt = y2.toInt := by rw [ey6, ey2, Int32.toInt_inj.mp (show x5.toInt = x1.toInt by omega)]
  have htc := fun w h => hts0 w (hwL_X12_cap w h)
  refine wiV (C := RX12) (As := [.int y6]) (rest := []) ⟨hx, hb, hml, hown, htc⟩ (fun sz => t_X12_cap l D k u4 hu mm m_mm k_mm y6 sz) (cwV 1 htc gS_X12_cap rfl rfl rfl (by decide +kernel) ⟨Nat.le_of_ble_eq_true rfl, Nat.le_of_ble_eq_true rfl⟩) hP hK hD hN hS hA (precv hK hP m_mm (cF12 k_mm) rfl) rfl hl.1 rfl (Nat.le_of_ble_eq_true rfl) dL_law_799 ⟨by show CC + _ ≤ 600000; omega, by show SS + _ ≤ 7302250; omega⟩ (fun r7 u8 H locs hq hP hD hS => ?_)
  obtain ⟨hu, hxu8, hr7⟩ := hq
  have hR := REL.px m_x k_x m_mm k_mm hR hxu8
  have k_x : u8.2.1 x = 11 := (hxu8 x m_x).2.1.trans k_x
  have m_x : x ∈ u8.1 := (hxu8 x m_x).1
  have k_mm : u8.2.1 mm = 12 := (hxu8 mm m_mm).2.1.trans k_mm
  have m_mm : mm ∈ u8.1 := (hxu8 mm m_mm).1
  refine lv_pop hx hb dL_law_802 rfl ?_
  refine lv_goto (tgt := 1769) hx hb dL_law_803 (by decide) ?_
  refine W.widen (k := CC + 389) (n := SS + 3227) (by omega) (by omega) ?_
  exact kk u8 _ _ ls hu m_x k_x m_mm k_mm hR hP hD hS hl
set_option maxHeartbeats 4000000 in
set_option maxRecDepth 100000 in
theorem law_20 {p : Program} {l : Launch} {e : Env} {s : State} {m : MethodId} {below : List Frame} {meth : Method} {c : Code} {b L : Nat} {xs : Nat → Int32} {D : va_G} {k : Nat → ClassId} {tt : TT} (C0 : lw_At p s m meth c b L xs) (hL : L ≤ 3072) (hN : NW s) (hK : va_K D vwCl (TYS k) s) (hE : SX tt (fun q : Nat => s.heap.size ≤ q) s s.heap) {x mm : Nat} {v3 : Int32} {CC SS : Nat} (hv : 0 ≤ v3.toInt ∧ v3.toInt + 6 ≤ L) (hC : CC + 389 ≤ 600000) (hSl : SS + 3227 ≤ 7302250) (kk : ∀ (u : PSt) (H : Heap) (locs : List Loc) (ls : Array Slot), WT u → x ∈ u.1 → u.2.1 x = 11 → mm ∈ u.1 → u.2.1 mm = 12 → REL u x mm → va_P D vwCl (PW k u) H → va_D (fun q : Nat => s.heap.size ≤ q) (PW k u) → va_S (fun q : Nat => s.heap.size ≤ q) s.heap H locs → lv_has ls 4 [(0, .ref b), (1, .ref x), (2, .ref mm), (3, .int v3)] → W p l e room_1 s m #[Value.ref b] below meth c H locs (CC + 389) (SS + 3227) (lw_Z below #[Value.ref b] s) (F0 m 1769 ls [])) {u : PSt} {H : Heap} {locs : List Loc} {ls : Array Slot} (hu : WT u) (m_x : x ∈ u.1) (k_x : u.2.1 x = 11) (m_mm : mm ∈ u.1) (k_mm : u.2.1 mm = 12) (hR : REL u x mm) (hP : va_P D vwCl (PW k u) H) (hD : va_D (fun q : Nat => s.heap.size ≤ q) (PW k u)) (hS : va_S (fun q : Nat => s.heap.size ≤ q) s.heap H locs) (hl : lv_has ls 4 [(0, .ref b), (1, .ref x), (2, .ref mm), (3, .int v3)]) : W p l e room_1 s m #[Value.ref b] below meth c H locs (CC) (SS) (lw_Z below #[Value.ref b] s) (F0 m 806 ls []) := by
  obtain ⟨hx, hb, hr, hml, hown, hts0, hX, hbl, hlocks, hgv⟩ := id C0
  have hA : ∀ q : Nat, s.heap.size ≤ q → (fun q : Nat => s.heap.size ≤ q) q := fun _ h => h
  have hbA : ¬ (fun q : Nat => s.heap.size ≤ q) b := Nat.not_le.mpr hbl
  refine lv_aload_n hx hb dL_law_806 rfl (lv_at hl 1 rfl) ?_
  refine lv_aload_n hx hb dL_law_807 rfl (lv_at hl 0 rfl) ?_
  refine lv_iload_n hx hb dL_law_808 rfl (lv_at hl 3 rfl) ?_
  refine lv_iconst (v := 1) hx hb dL_law_809 (by decide) ?_
  refine lv_iadd hx hb dL_law_810 ?_
  refine lv_topi (fun x1 ex1 => ?_)
  have tx1 : x1.toInt = v3.toInt + 1 := by rw [ex1]; exact i_add (b := 1) (by show -2147483648 ≤ v3.toInt + 1; omega) (by show v3.toInt + 1 ≤ 2147483647; omega)
  refine va_sld hx hb hX hbl hbA hS (vp_in_iff.mpr (by omega)) dL_law_811 ?_
  refine lv_topi (fun y2 ey2 => ?_)
  refine lv_aload_n hx hb dL_law_812 rfl (lv_at hl 0 rfl) ?_
  refine lv_iload_n hx hb dL_law_813 rfl (lv_at hl 3 rfl) ?_
  refine lv_iconst (v := 2) hx hb dL_law_814 (by decide) ?_
  refine lv_iadd hx hb dL_law_815 ?_
  refine lv_topi (fun x3 ex3 => ?_)
  have tx3 : x3.toInt = v3.toInt + 2 := by rw [ex3]; exact i_add (b := 2) (by show -2147483648 ≤ v3.toInt + 2; omega) (by show v3.toInt + 2 ≤ 2147483647; omega)
  refine va_sld hx hb hX hbl hbA hS (vp_in_iff.mpr (by omega)) dL_law_816 ?_
  refine lv_topi (fun y4 ey4 => ?_)
  refine lv_if_eq (tgt := 824) hx hb dL_law_817 (by decide) (fun c5 => ?_) (fun c5 => ?_)
  · refine lv_iconst (v := 0) hx hb dL_law_824 (by decide) ?_
    have htc := fun w h => hts0 w (hwL_X11_prop w h)
    refine wiV (C := RX11) (As := [.int y2, .int 0]) (rest := []) ⟨hx, hb, hml, hown, htc⟩ (fun sz => t_X11_prop l D k u hu x m_x k_x y2 0 (by decide) sz) (cwV 2 htc gS_X11_prop rfl rfl rfl (by decide +kernel) ⟨Nat.le_of_ble_eq_true rfl, Nat.le_of_ble_eq_true rfl⟩) hP hK hD hN hS hA (precv hK hP m_x (cF11 k_x) rfl) rfl hl.1 rfl (Nat.le_of_ble_eq_true rfl) dL_law_825 ⟨by show CC + _ ≤ 600000; omega, by show SS + _ ≤ 7302250; omega⟩ (fun r6 u7 H locs hq hP hD hS => ?_)
    obtain ⟨hu, hxu7, hr6⟩ := hq
    have hR := REL.px m_x k_x m_mm k_mm hR hxu7
    have k_x : u7.2.1 x = 11 := (hxu7 x m_x).2.1.trans k_x
    have m_x : x ∈ u7.1 := (hxu7 x m_x).1
    have k_mm : u7.2.1 mm = 12 := (hxu7 mm m_mm).2.1.trans k_mm
    have m_mm : mm ∈ u7.1 := (hxu7 mm m_mm).1
    refine lv_pop hx hb dL_law_828 rfl ?_
    refine lv_aload_n hx hb dL_law_829 rfl (lv_at hl 2 rfl) ?_
    refine lv_aload_n hx hb dL_law_830 rfl (lv_at hl 0 rfl) ?_
    refine lv_iload_n hx hb dL_law_831 rfl (lv_at hl 3 rfl) ?_
    refine lv_iconst (v := 1) hx hb dL_law_832 (by decide) ?_
    refine lv_iadd hx hb dL_law_833 ?_
    refine lv_topi (fun x8 ex8 => ?_)
    have tx8 : x8.toInt = v3.toInt + 1 := by rw [ex8]; exact i_add (b := 1) (by show -2147483648 ≤ v3.toInt + 1; omega) (by show v3.toInt + 1 ≤ 2147483647; omega)
    refine va_sld hx hb hX hbl hbA hS (vp_in_iff.mpr (by omega)) dL_law_834 ?_
    refine lv_topi (fun y9 ey9 => ?_)
    have qy9 : y9.toInt = y2.toInt := by rw [ey9, ey2, Int32.toInt_inj.mp (show x8.toInt = x1.toInt by omega)]
    refine lv_aload_n hx hb dL_law_835 rfl (lv_at hl 0 rfl) ?_
    refine lv_iload_n hx hb dL_law_836 rfl (lv_at hl 3 rfl) ?_
    refine lv_iconst (v := 2) hx hb dL_law_837 (by decide) ?_
    refine lv_iadd hx hb dL_law_838 ?_
    refine lv_topi (fun x10 ex10 => ?_)
    have tx10 : x10.toInt = v3.toInt + 2 := by rw [ex10]; exact i_add (b := 2) (by show -2147483648 ≤ v3.toInt + 2; omega) (by show v3.toInt + 2 ≤ 2147483647; omega)
    refine va_sld hx hb hX hbl hbA hS (vp_in_iff.mpr (by omega)) dL_law_839 ?_
    refine lv_topi (fun y11 ey11 => ?_)
    have qy11 : y11.toInt = y4.toInt := by rw [ey11, ey4, Int32.toInt_inj.mp (show x10.toInt = x3.toInt by omega)]
    refine lv_if_eq (tgt := 847) hx hb dL_law_840 (by decide) (fun c12 => ?_) (fun c12 => ?_)
    · refine lv_iconst (v := 0) hx hb dL_law_847 (by decide) ?_
      have htc := fun w h => hts0 w (hwL_X12_prop w h)
      refine wiV (C := RX12) (As := [.int y9, .int 0]) (rest := []) ⟨hx, hb, hml, hown, htc⟩ (fun sz => t_X12_prop l D k u7 hu mm m_mm k_mm y9 0 (by decide) sz) (cwV 2 htc gS_X12_prop rfl rfl rfl (by decide +kernel) ⟨Nat.le_of_ble_eq_true rfl, Nat.le_of_ble_eq_true rfl⟩) hP hK hD hN hS hA (precv hK hP m_mm (cF12 k_mm) rfl) rfl hl.1 rfl (Nat.le_of_ble_eq_true rfl) dL_law_848 ⟨by show CC + _ ≤ 600000; omega, by show SS + _ ≤ 7302250; omega⟩ (fun r13 u14 H locs hq hP hD hS => ?_)
      obtain ⟨hu, hxu14, hr13⟩ := hq
      have hR := REL.px m_x k_x m_mm k_mm hR hxu14
      have k_x : u14.2.1 x = 11 := (hxu14 x m_x).2.1.trans k_x
      have m_x : x ∈ u14.1 := (hxu14 x m_x).1
      have k_mm : u14.2.1 mm = 12 := (hxu14 mm m_mm).2.1.trans k_mm
      have m_mm : mm ∈ u14.1 := (hxu14 mm m_mm).1
      refine lv_pop hx hb dL_law_851 rfl ?_
      refine lv_goto (tgt := 1769) hx hb dL_law_852 (by decide) ?_
      refine W.widen (k := CC + 389) (n := SS + 3227) (by omega) (by omega) ?_
      exact kk u14 _ _ ls hu m_x k_x m_mm k_mm hR hP hD hS hl
    · refine lv_iconst (v := 1) hx hb dL_law_843 (by decide) ?_
      refine lv_goto (tgt := 848) hx hb dL_law_844 (by decide) ?_
      have htc := fun w h => hts0 w (hwL_X12_prop w h)
      refine wiV (C := RX12) (As := [.int y9, .int 1]) (rest := []) ⟨hx, hb, hml, hown, htc⟩ (fun sz => t_X12_prop l D k u7 hu mm m_mm k_mm y9 1 (by decide) sz) (cwV 2 htc gS_X12_prop rfl rfl rfl (by decide +kernel) ⟨Nat.le_of_ble_eq_true rfl, Nat.le_of_ble_eq_true rfl⟩) hP hK hD hN hS hA (precv hK hP m_mm (cF12 k_mm) rfl) rfl hl.1 rfl (Nat.le_of_ble_eq_true rfl) dL_law_848 ⟨by show CC + _ ≤ 600000; omega, by show SS + _ ≤ 7302250; omega⟩ (fun r15 u16 H locs hq hP hD hS => ?_)
      obtain ⟨hu, hxu16, hr15⟩ := hq
      have hR := REL.px m_x k_x m_mm k_mm hR hxu16
      have k_x : u16.2.1 x = 11 := (hxu16 x m_x).2.1.trans k_x
      have m_x : x ∈ u16.1 := (hxu16 x m_x).1
      have k_mm : u16.2.1 mm = 12 := (hxu16 mm m_mm).2.1.trans k_mm
      have m_mm : mm ∈ u16.1 := (hxu16 mm m_mm).1
      refine lv_pop hx hb dL_law_851 rfl ?_
      refine lv_goto (tgt := 1769) hx hb dL_law_852 (by decide) ?_
      refine W.widen (k := CC + 389) (n := SS + 3227) (by omega) (by omega) ?_
      exact kk u16 _ _ ls hu m_x k_x m_mm k_mm hR hP hD hS hl
  · refine lv_iconst (v := 1) hx hb dL_law_820 (by decide) ?_
    refine lv_goto (tgt := 825) hx hb dL_law_821 (by decide) ?_
    have htc := fun w h => hts0 w (hwL_X11_prop w h)
    refine wiV (C := RX11) (As := [.int y2, .int 1]) (rest := []) ⟨hx, hb, hml, hown, htc⟩ (fun sz => t_X11_prop l D k u hu x m_x k_x y2 1 (by decide) sz) (cwV 2 htc gS_X11_prop rfl rfl rfl (by decide +kernel) ⟨Nat.le_of_ble_eq_true rfl, Nat.le_of_ble_eq_true rfl⟩) hP hK hD hN hS hA (precv hK hP m_x (cF11 k_x) rfl) rfl hl.1 rfl (Nat.le_of_ble_eq_true rfl) dL_law_825 ⟨by show CC + _ ≤ 600000; omega, by show SS + _ ≤ 7302250; omega⟩ (fun r17 u18 H locs hq hP hD hS => ?_)
    obtain ⟨hu, hxu18, hr17⟩ := hq
    have hR := REL.px m_x k_x m_mm k_mm hR hxu18
    have k_x : u18.2.1 x = 11 := (hxu18 x m_x).2.1.trans k_x
    have m_x : x ∈ u18.1 := (hxu18 x m_x).1
    have k_mm : u18.2.1 mm = 12 := (hxu18 mm m_mm).2.1.trans k_mm
    have m_mm : mm ∈ u18.1 := (hxu18 mm m_mm).1
    refine lv_pop hx hb dL_law_828 rfl ?_
    refine lv_aload_n hx hb dL_law_829 rfl (lv_at hl 2 rfl) ?_
    refine lv_aload_n hx hb dL_law_830 rfl (lv_at hl 0 rfl) ?_
    refine lv_iload_n hx hb dL_law_831 rfl (lv_at hl 3 rfl) ?_
    refine lv_iconst (v := 1) hx hb dL_law_832 (by decide) ?_
    refine lv_iadd hx hb dL_law_833 ?_
    refine lv_topi (fun x19 ex19 => ?_)
    have tx19 : x19.toInt = v3.toInt + 1 := by rw [ex19]; exact i_add (b := 1) (by show -2147483648 ≤ v3.toInt + 1; omega) (by show v3.toInt + 1 ≤ 2147483647; omega)
    refine va_sld hx hb hX hbl hbA hS (vp_in_iff.mpr (by omega)) dL_law_834 ?_
    refine lv_topi (fun y20 ey20 => ?_)
    have qy20 : y20.toInt = y2.toInt := by rw [ey20, ey2, Int32.toInt_inj.mp (show x19.toInt = x1.toInt by omega)]
    refine lv_aload_n hx hb dL_law_835 rfl (lv_at hl 0 rfl) ?_
    refine lv_iload_n hx hb dL_law_836 rfl (lv_at hl 3 rfl) ?_
    refine lv_iconst (v := 2) hx hb dL_law_837 (by decide) ?_
    refine lv_iadd hx hb dL_law_838 ?_
    refine lv_topi (fun x21 ex21 => ?_)
    have tx21 : x21.toInt = v3.toInt + 2 := by rw [ex21]; exact i_add (b := 2) (by show -2147483648 ≤ v3.toInt + 2; omega) (by show v3.toInt + 2 ≤ 2147483647; omega)
    refine va_sld hx hb hX hbl hbA hS (vp_in_iff.mpr (by omega)) dL_law_839 ?_
    refine lv_topi (fun y22 ey22 => ?_)
    have qy22 : y22.toInt = y4.toInt := by rw [ey22, ey4, Int32.toInt_inj.mp (show x21.toInt = x3.toInt by omega)]
    refine lv_if_eq (tgt := 847) hx hb dL_law_840 (by decide) (fun c23 => ?_) (fun c23 => ?_)
    · refine lv_iconst (v := 0) hx hb dL_law_847 (by decide) ?_
      have htc := fun w h => hts0 w (hwL_X12_prop w h)
      refine wiV (C := RX12) (As := [.int y20, .int 0]) (rest := []) ⟨hx, hb, hml, hown, htc⟩ (fun sz => t_X12_prop l D k u18 hu mm m_mm k_mm y20 0 (by decide) sz) (cwV 2 htc gS_X12_prop rfl rfl rfl (by decide +kernel) ⟨Nat.le_of_ble_eq_true rfl, Nat.le_of_ble_eq_true rfl⟩) hP hK hD hN hS hA (precv hK hP m_mm (cF12 k_mm) rfl) rfl hl.1 rfl (Nat.le_of_ble_eq_true rfl) dL_law_848 ⟨by show CC + _ ≤ 600000; omega, by show SS + _ ≤ 7302250; omega⟩ (fun r24 u25 H locs hq hP hD hS => ?_)
      obtain ⟨hu, hxu25, hr24⟩ := hq
      have hR := REL.px m_x k_x m_mm k_mm hR hxu25
      have k_x : u25.2.1 x = 11 := (hxu25 x m_x).2.1.trans k_x
      have m_x : x ∈ u25.1 := (hxu25 x m_x).1
      have k_mm : u25.2.1 mm = 12 := (hxu25 mm m_mm).2.1.trans k_mm
      have m_mm : mm ∈ u25.1 := (hxu25 mm m_mm).1
      refine lv_pop hx hb dL_law_851 rfl ?_
      refine lv_goto (tgt := 1769) hx hb dL_law_852 (by decide) ?_
      refine W.widen (k := CC + 389) (n := SS + 3227) (by omega) (by omega) ?_
      exact kk u25 _ _ ls hu m_x k_x m_mm k_mm hR hP hD hS hl
    · refine lv_iconst (v := 1) hx hb dL_law_843 (by decide) ?_
      refine lv_goto (tgt := 848) hx hb dL_law_844 (by decide) ?_
      have htc := fun w h => hts0 w (hwL_X12_prop w h)
      refine wiV (C := RX12) (As := [.int y20, .int 1]) (rest := []) ⟨hx, hb, hml, hown, htc⟩ (fun sz => t_X12_prop l D k u18 hu mm m_mm k_mm y20 1 (by decide) sz) (cwV 2 htc gS_X12_prop rfl rfl rfl (by decide +kernel) ⟨Nat.le_of_ble_eq_true rfl, Nat.le_of_ble_eq_true rfl⟩) hP hK hD hN hS hA (precv hK hP m_mm (cF12 k_mm) rfl) rfl hl.1 rfl (Nat.le_of_ble_eq_true rfl) dL_law_848 ⟨by show CC + _ ≤ 600000; omega, by show SS + _ ≤ 7302250; omega⟩ (fun r26 u27 H locs hq hP hD hS => ?_)
      obtain ⟨hu, hxu27, hr26⟩ := hq
      have hR := REL.px m_x k_x m_mm k_mm hR hxu27
      have k_x : u27.2.1 x = 11 := (hxu27 x m_x).2.1.trans k_x
      have m_x : x ∈ u27.1 := (hxu27 x m_x).1
      have k_mm : u27.2.1 mm = 12 := (hxu27 mm m_mm).2.1.trans k_mm
      have m_mm : mm ∈ u27.1 := (hxu27 mm m_mm).1
      refine lv_pop hx hb dL_law_851 rfl ?_
      refine lv_goto (tgt := 1769) hx hb dL_law_852 (by decide) ?_
      refine W.widen (k := CC + 389) (n := SS + 3227) (by omega) (by omega) ?_
      exact kk u27 _ _ ls hu m_x k_x m_mm k_mm hR hP hD hS hl
set_option maxHeartbeats 4000000 in
set_option maxRecDepth 100000 in
theorem law_21 {p : Program} {l : Launch} {e : Env} {s : State} {m : MethodId} {below : List Frame} {meth : Method} {c : Code} {b L : Nat} {xs : Nat → Int32} {D : va_G} {k : Nat → ClassId} {tt : TT} (C0 : lw_At p s m meth c b L xs) (hL : L ≤ 3072) (hN : NW s) (hK : va_K D vwCl (TYS k) s) (hE : SX tt (fun q : Nat => s.heap.size ≤ q) s s.heap) {x mm : Nat} {v3 : Int32} {CC SS : Nat} (hv : 0 ≤ v3.toInt ∧ v3.toInt + 6 ≤ L) (hC : CC + 389 ≤ 600000) (hSl : SS + 3227 ≤ 7302250) (kk : ∀ (u : PSt) (H : Heap) (locs : List Loc) (ls : Array Slot), WT u → x ∈ u.1 → u.2.1 x = 11 → mm ∈ u.1 → u.2.1 mm = 12 → REL u x mm → va_P D vwCl (PW k u) H → va_D (fun q : Nat => s.heap.size ≤ q) (PW k u) → va_S (fun q : Nat => s.heap.size ≤ q) s.heap H locs → lv_has ls 4 [(0, .ref b), (1, .ref x), (2, .ref mm), (3, .int v3)] → W p l e room_1 s m #[Value.ref b] below meth c H locs (CC + 389) (SS + 3227) (lw_Z below #[Value.ref b] s) (F0 m 1769 ls [])) {u : PSt} {H : Heap} {locs : List Loc} {ls : Array Slot} (hu : WT u) (m_x : x ∈ u.1) (k_x : u.2.1 x = 11) (m_mm : mm ∈ u.1) (k_mm : u.2.1 mm = 12) (hR : REL u x mm) (hP : va_P D vwCl (PW k u) H) (hD : va_D (fun q : Nat => s.heap.size ≤ q) (PW k u)) (hS : va_S (fun q : Nat => s.heap.size ≤ q) s.heap H locs) (hl : lv_has ls 4 [(0, .ref b), (1, .ref x), (2, .ref mm), (3, .int v3)]) : W p l e room_1 s m #[Value.ref b] below meth c H locs (CC) (SS) (lw_Z below #[Value.ref b] s) (F0 m 855 ls []) := by
  obtain ⟨hx, hb, hr, hml, hown, hts0, hX, hbl, hlocks, hgv⟩ := id C0
  have hA : ∀ q : Nat, s.heap.size ≤ q → (fun q : Nat => s.heap.size ≤ q) q := fun _ h => h
  have hbA : ¬ (fun q : Nat => s.heap.size ≤ q) b := Nat.not_le.mpr hbl
  refine lv_aload_n hx hb dL_law_855 rfl (lv_at hl 1 rfl) ?_
  refine lv_aload_n hx hb dL_law_856 rfl (lv_at hl 0 rfl) ?_
  refine lv_iload_n hx hb dL_law_857 rfl (lv_at hl 3 rfl) ?_
  refine lv_iconst (v := 1) hx hb dL_law_858 (by decide) ?_
  refine lv_iadd hx hb dL_law_859 ?_
  refine lv_topi (fun x1 ex1 => ?_)
  have tx1 : x1.toInt = v3.toInt + 1 := by rw [ex1]; exact i_add (b := 1) (by show -2147483648 ≤ v3.toInt + 1; omega) (by show v3.toInt + 1 ≤ 2147483647; omega)
  refine va_sld hx hb hX hbl hbA hS (vp_in_iff.mpr (by omega)) dL_law_860 ?_
  refine lv_topi (fun y2 ey2 => ?_)
  refine lv_aload_n hx hb dL_law_861 rfl (lv_at hl 0 rfl) ?_
  refine lv_iload_n hx hb dL_law_862 rfl (lv_at hl 3 rfl) ?_
  refine lv_iconst (v := 2) hx hb dL_law_863 (by decide) ?_
  refine lv_iadd hx hb dL_law_864 ?_
  refine lv_topi (fun x3 ex3 => ?_)
  have tx3 : x3.toInt = v3.toInt + 2 := by rw [ex3]; exact i_add (b := 2) (by show -2147483648 ≤ v3.toInt + 2; omega) (by show v3.toInt + 2 ≤ 2147483647; omega)
  refine va_sld hx hb hX hbl hbA hS (vp_in_iff.mpr (by omega)) dL_law_865 ?_
  refine lv_topi (fun y4 ey4 => ?_)
  have htc := fun w h => hts0 w (hwL_X11_widen w h)
  refine wiV (C := RX11) (As := [.int y2, .int y4]) (rest := []) ⟨hx, hb, hml, hown, htc⟩ (fun sz => t_X11_widen l D k u hu x m_x k_x y2 y4 sz) (cwV 2 htc gS_X11_widen rfl rfl rfl (by decide +kernel) ⟨Nat.le_of_ble_eq_true rfl, Nat.le_of_ble_eq_true rfl⟩) hP hK hD hN hS hA (precv hK hP m_x (cF11 k_x) rfl) rfl hl.1 rfl (Nat.le_of_ble_eq_true rfl) dL_law_866 ⟨by show CC + _ ≤ 600000; omega, by show SS + _ ≤ 7302250; omega⟩ (fun r5 u6 H locs hq hP hD hS => ?_)
  obtain ⟨hu, hxu6, hr5⟩ := hq
  have hR := REL.px m_x k_x m_mm k_mm hR hxu6
  have k_x : u6.2.1 x = 11 := (hxu6 x m_x).2.1.trans k_x
  have m_x : x ∈ u6.1 := (hxu6 x m_x).1
  have k_mm : u6.2.1 mm = 12 := (hxu6 mm m_mm).2.1.trans k_mm
  have m_mm : mm ∈ u6.1 := (hxu6 mm m_mm).1
  refine lv_pop hx hb dL_law_869 rfl ?_
  refine lv_aload_n hx hb dL_law_870 rfl (lv_at hl 2 rfl) ?_
  refine lv_aload_n hx hb dL_law_871 rfl (lv_at hl 0 rfl) ?_
  refine lv_iload_n hx hb dL_law_872 rfl (lv_at hl 3 rfl) ?_
  refine lv_iconst (v := 1) hx hb dL_law_873 (by decide) ?_
  refine lv_iadd hx hb dL_law_874 ?_
  refine lv_topi (fun x7 ex7 => ?_)
  have tx7 : x7.toInt = v3.toInt + 1 := by rw [ex7]; exact i_add (b := 1) (by show -2147483648 ≤ v3.toInt + 1; omega) (by show v3.toInt + 1 ≤ 2147483647; omega)
  refine va_sld hx hb hX hbl hbA hS (vp_in_iff.mpr (by omega)) dL_law_875 ?_
  refine lv_topi (fun y8 ey8 => ?_)
  have qy8 : y8.toInt = y2.toInt := by rw [ey8, ey2, Int32.toInt_inj.mp (show x7.toInt = x1.toInt by omega)]
  refine lv_aload_n hx hb dL_law_876 rfl (lv_at hl 0 rfl) ?_
  refine lv_iload_n hx hb dL_law_877 rfl (lv_at hl 3 rfl) ?_
  refine lv_iconst (v := 2) hx hb dL_law_878 (by decide) ?_
  refine lv_iadd hx hb dL_law_879 ?_
  refine lv_topi (fun x9 ex9 => ?_)
  have tx9 : x9.toInt = v3.toInt + 2 := by rw [ex9]; exact i_add (b := 2) (by show -2147483648 ≤ v3.toInt + 2; omega) (by show v3.toInt + 2 ≤ 2147483647; omega)
  refine va_sld hx hb hX hbl hbA hS (vp_in_iff.mpr (by omega)) dL_law_880 ?_
  refine lv_topi (fun y10 ey10 => ?_)
  have qy10 : y10.toInt = y4.toInt := by rw [ey10, ey4, Int32.toInt_inj.mp (show x9.toInt = x3.toInt by omega)]
  have htc := fun w h => hts0 w (hwL_X12_widen w h)
  refine wiV (C := RX12) (As := [.int y8, .int y10]) (rest := []) ⟨hx, hb, hml, hown, htc⟩ (fun sz => t_X12_widen l D k u6 hu mm m_mm k_mm y8 y10 sz) (cwV 2 htc gS_X12_widen rfl rfl rfl (by decide +kernel) ⟨Nat.le_of_ble_eq_true rfl, Nat.le_of_ble_eq_true rfl⟩) hP hK hD hN hS hA (precv hK hP m_mm (cF12 k_mm) rfl) rfl hl.1 rfl (Nat.le_of_ble_eq_true rfl) dL_law_881 ⟨by show CC + _ ≤ 600000; omega, by show SS + _ ≤ 7302250; omega⟩ (fun r11 u12 H locs hq hP hD hS => ?_)
  obtain ⟨hu, hxu12, hr11⟩ := hq
  have hR := REL.px m_x k_x m_mm k_mm hR hxu12
  have k_x : u12.2.1 x = 11 := (hxu12 x m_x).2.1.trans k_x
  have m_x : x ∈ u12.1 := (hxu12 x m_x).1
  have k_mm : u12.2.1 mm = 12 := (hxu12 mm m_mm).2.1.trans k_mm
  have m_mm : mm ∈ u12.1 := (hxu12 mm m_mm).1
  refine lv_pop hx hb dL_law_884 rfl ?_
  refine lv_goto (tgt := 1769) hx hb dL_law_885 (by decide) ?_
  refine W.widen (k := CC + 389) (n := SS + 3227) (by omega) (by omega) ?_
  exact kk u12 _ _ ls hu m_x k_x m_mm k_mm hR hP hD hS hl
set_option maxHeartbeats 4000000 in
set_option maxRecDepth 100000 in
theorem law_22 {p : Program} {l : Launch} {e : Env} {s : State} {m : MethodId} {below : List Frame} {meth : Method} {c : Code} {b L : Nat} {xs : Nat → Int32} {D : va_G} {k : Nat → ClassId} {tt : TT} (C0 : lw_At p s m meth c b L xs) (hL : L ≤ 3072) (hN : NW s) (hK : va_K D vwCl (TYS k) s) (hE : SX tt (fun q : Nat => s.heap.size ≤ q) s s.heap) {x mm : Nat} {v3 : Int32} {CC SS : Nat} (hv : 0 ≤ v3.toInt ∧ v3.toInt + 6 ≤ L) (hC : CC + 389 ≤ 600000) (hSl : SS + 3227 ≤ 7302250) (kk : ∀ (u : PSt) (H : Heap) (locs : List Loc) (ls : Array Slot), WT u → x ∈ u.1 → u.2.1 x = 11 → mm ∈ u.1 → u.2.1 mm = 12 → REL u x mm → va_P D vwCl (PW k u) H → va_D (fun q : Nat => s.heap.size ≤ q) (PW k u) → va_S (fun q : Nat => s.heap.size ≤ q) s.heap H locs → lv_has ls 4 [(0, .ref b), (1, .ref x), (2, .ref mm), (3, .int v3)] → W p l e room_1 s m #[Value.ref b] below meth c H locs (CC + 389) (SS + 3227) (lw_Z below #[Value.ref b] s) (F0 m 1769 ls [])) {u : PSt} {H : Heap} {locs : List Loc} {ls : Array Slot} (hu : WT u) (m_x : x ∈ u.1) (k_x : u.2.1 x = 11) (m_mm : mm ∈ u.1) (k_mm : u.2.1 mm = 12) (hR : REL u x mm) (hP : va_P D vwCl (PW k u) H) (hD : va_D (fun q : Nat => s.heap.size ≤ q) (PW k u)) (hS : va_S (fun q : Nat => s.heap.size ≤ q) s.heap H locs) (hl : lv_has ls 4 [(0, .ref b), (1, .ref x), (2, .ref mm), (3, .int v3)]) : W p l e room_1 s m #[Value.ref b] below meth c H locs (CC) (SS) (lw_Z below #[Value.ref b] s) (F0 m 888 ls []) := by
  obtain ⟨hx, hb, hr, hml, hown, hts0, hX, hbl, hlocks, hgv⟩ := id C0
  have hA : ∀ q : Nat, s.heap.size ≤ q → (fun q : Nat => s.heap.size ≤ q) q := fun _ h => h
  have hbA : ¬ (fun q : Nat => s.heap.size ≤ q) b := Nat.not_le.mpr hbl
  refine lv_aload_n hx hb dL_law_888 rfl (lv_at hl 1 rfl) ?_
  refine lv_aload_n hx hb dL_law_889 rfl (lv_at hl 0 rfl) ?_
  refine lv_iload_n hx hb dL_law_890 rfl (lv_at hl 3 rfl) ?_
  refine lv_iconst (v := 1) hx hb dL_law_891 (by decide) ?_
  refine lv_iadd hx hb dL_law_892 ?_
  refine lv_topi (fun x1 ex1 => ?_)
  have tx1 : x1.toInt = v3.toInt + 1 := by rw [ex1]; exact i_add (b := 1) (by show -2147483648 ≤ v3.toInt + 1; omega) (by show v3.toInt + 1 ≤ 2147483647; omega)
  refine va_sld hx hb hX hbl hbA hS (vp_in_iff.mpr (by omega)) dL_law_893 ?_
  refine lv_topi (fun y2 ey2 => ?_)
  refine lv_aload_n hx hb dL_law_894 rfl (lv_at hl 0 rfl) ?_
  refine lv_iload_n hx hb dL_law_895 rfl (lv_at hl 3 rfl) ?_
  refine lv_iconst (v := 2) hx hb dL_law_896 (by decide) ?_
  refine lv_iadd hx hb dL_law_897 ?_
  refine lv_topi (fun x3 ex3 => ?_)
  have tx3 : x3.toInt = v3.toInt + 2 := by rw [ex3]; exact i_add (b := 2) (by show -2147483648 ≤ v3.toInt + 2; omega) (by show v3.toInt + 2 ≤ 2147483647; omega)
  refine va_sld hx hb hX hbl hbA hS (vp_in_iff.mpr (by omega)) dL_law_898 ?_
  refine lv_topi (fun y4 ey4 => ?_)
  have htc := fun w h => hts0 w (hwL_X11_lever w h)
  refine wiV (C := RX11) (As := [.int y2, .int y4]) (rest := []) ⟨hx, hb, hml, hown, htc⟩ (fun sz => t_X11_lever l D k u hu x m_x k_x y2 y4 sz) (cwV 2 htc gS_X11_lever rfl rfl rfl (by decide +kernel) ⟨Nat.le_of_ble_eq_true rfl, Nat.le_of_ble_eq_true rfl⟩) hP hK hD hN hS hA (precv hK hP m_x (cF11 k_x) rfl) rfl hl.1 rfl (Nat.le_of_ble_eq_true rfl) dL_law_899 ⟨by show CC + _ ≤ 600000; omega, by show SS + _ ≤ 7302250; omega⟩ (fun r5 u6 H locs hq hP hD hS => ?_)
  obtain ⟨hu, hxu6, hr5⟩ := hq
  have hR := REL.px m_x k_x m_mm k_mm hR hxu6
  have k_x : u6.2.1 x = 11 := (hxu6 x m_x).2.1.trans k_x
  have m_x : x ∈ u6.1 := (hxu6 x m_x).1
  have k_mm : u6.2.1 mm = 12 := (hxu6 mm m_mm).2.1.trans k_mm
  have m_mm : mm ∈ u6.1 := (hxu6 mm m_mm).1
  refine lv_pop hx hb dL_law_902 rfl ?_
  refine lv_aload_n hx hb dL_law_903 rfl (lv_at hl 2 rfl) ?_
  refine lv_aload_n hx hb dL_law_904 rfl (lv_at hl 0 rfl) ?_
  refine lv_iload_n hx hb dL_law_905 rfl (lv_at hl 3 rfl) ?_
  refine lv_iconst (v := 1) hx hb dL_law_906 (by decide) ?_
  refine lv_iadd hx hb dL_law_907 ?_
  refine lv_topi (fun x7 ex7 => ?_)
  have tx7 : x7.toInt = v3.toInt + 1 := by rw [ex7]; exact i_add (b := 1) (by show -2147483648 ≤ v3.toInt + 1; omega) (by show v3.toInt + 1 ≤ 2147483647; omega)
  refine va_sld hx hb hX hbl hbA hS (vp_in_iff.mpr (by omega)) dL_law_908 ?_
  refine lv_topi (fun y8 ey8 => ?_)
  have qy8 : y8.toInt = y2.toInt := by rw [ey8, ey2, Int32.toInt_inj.mp (show x7.toInt = x1.toInt by omega)]
  refine lv_aload_n hx hb dL_law_909 rfl (lv_at hl 0 rfl) ?_
  refine lv_iload_n hx hb dL_law_910 rfl (lv_at hl 3 rfl) ?_
  refine lv_iconst (v := 2) hx hb dL_law_911 (by decide) ?_
  refine lv_iadd hx hb dL_law_912 ?_
  refine lv_topi (fun x9 ex9 => ?_)
  have tx9 : x9.toInt = v3.toInt + 2 := by rw [ex9]; exact i_add (b := 2) (by show -2147483648 ≤ v3.toInt + 2; omega) (by show v3.toInt + 2 ≤ 2147483647; omega)
  refine va_sld hx hb hX hbl hbA hS (vp_in_iff.mpr (by omega)) dL_law_913 ?_
  refine lv_topi (fun y10 ey10 => ?_)
  have qy10 : y10.toInt = y4.toInt := by rw [ey10, ey4, Int32.toInt_inj.mp (show x9.toInt = x3.toInt by omega)]
  have htc := fun w h => hts0 w (hwL_X12_lever w h)
  refine wiV (C := RX12) (As := [.int y8, .int y10]) (rest := []) ⟨hx, hb, hml, hown, htc⟩ (fun sz => t_X12_lever l D k u6 hu mm m_mm k_mm y8 y10 sz) (cwV 2 htc gS_X12_lever rfl rfl rfl (by decide +kernel) ⟨Nat.le_of_ble_eq_true rfl, Nat.le_of_ble_eq_true rfl⟩) hP hK hD hN hS hA (precv hK hP m_mm (cF12 k_mm) rfl) rfl hl.1 rfl (Nat.le_of_ble_eq_true rfl) dL_law_914 ⟨by show CC + _ ≤ 600000; omega, by show SS + _ ≤ 7302250; omega⟩ (fun r11 u12 H locs hq hP hD hS => ?_)
  obtain ⟨hu, hxu12, hr11⟩ := hq
  have hR := REL.px m_x k_x m_mm k_mm hR hxu12
  have k_x : u12.2.1 x = 11 := (hxu12 x m_x).2.1.trans k_x
  have m_x : x ∈ u12.1 := (hxu12 x m_x).1
  have k_mm : u12.2.1 mm = 12 := (hxu12 mm m_mm).2.1.trans k_mm
  have m_mm : mm ∈ u12.1 := (hxu12 mm m_mm).1
  refine lv_pop hx hb dL_law_917 rfl ?_
  refine lv_goto (tgt := 1769) hx hb dL_law_918 (by decide) ?_
  refine W.widen (k := CC + 389) (n := SS + 3227) (by omega) (by omega) ?_
  exact kk u12 _ _ ls hu m_x k_x m_mm k_mm hR hP hD hS hl
set_option maxHeartbeats 4000000 in
set_option maxRecDepth 100000 in
theorem law_23 {p : Program} {l : Launch} {e : Env} {s : State} {m : MethodId} {below : List Frame} {meth : Method} {c : Code} {b L : Nat} {xs : Nat → Int32} {D : va_G} {k : Nat → ClassId} {tt : TT} (C0 : lw_At p s m meth c b L xs) (hL : L ≤ 3072) (hN : NW s) (hK : va_K D vwCl (TYS k) s) (hE : SX tt (fun q : Nat => s.heap.size ≤ q) s s.heap) {x mm : Nat} {v3 : Int32} {CC SS : Nat} (hv : 0 ≤ v3.toInt ∧ v3.toInt + 6 ≤ L) (hC : CC + 389 ≤ 600000) (hSl : SS + 3227 ≤ 7302250) (kk : ∀ (u : PSt) (H : Heap) (locs : List Loc) (ls : Array Slot), WT u → x ∈ u.1 → u.2.1 x = 11 → mm ∈ u.1 → u.2.1 mm = 12 → REL u x mm → va_P D vwCl (PW k u) H → va_D (fun q : Nat => s.heap.size ≤ q) (PW k u) → va_S (fun q : Nat => s.heap.size ≤ q) s.heap H locs → lv_has ls 4 [(0, .ref b), (1, .ref x), (2, .ref mm), (3, .int v3)] → W p l e room_1 s m #[Value.ref b] below meth c H locs (CC + 389) (SS + 3227) (lw_Z below #[Value.ref b] s) (F0 m 1769 ls [])) {u : PSt} {H : Heap} {locs : List Loc} {ls : Array Slot} (hu : WT u) (m_x : x ∈ u.1) (k_x : u.2.1 x = 11) (m_mm : mm ∈ u.1) (k_mm : u.2.1 mm = 12) (hR : REL u x mm) (hP : va_P D vwCl (PW k u) H) (hD : va_D (fun q : Nat => s.heap.size ≤ q) (PW k u)) (hS : va_S (fun q : Nat => s.heap.size ≤ q) s.heap H locs) (hl : lv_has ls 4 [(0, .ref b), (1, .ref x), (2, .ref mm), (3, .int v3)]) : W p l e room_1 s m #[Value.ref b] below meth c H locs (CC) (SS) (lw_Z below #[Value.ref b] s) (F0 m 921 ls []) := by
  obtain ⟨hx, hb, hr, hml, hown, hts0, hX, hbl, hlocks, hgv⟩ := id C0
  have hA : ∀ q : Nat, s.heap.size ≤ q → (fun q : Nat => s.heap.size ≤ q) q := fun _ h => h
  have hbA : ¬ (fun q : Nat => s.heap.size ≤ q) b := Nat.not_le.mpr hbl
  refine lv_aload_n hx hb dL_law_921 rfl (lv_at hl 1 rfl) ?_
  refine lv_aload_n hx hb dL_law_922 rfl (lv_at hl 0 rfl) ?_
  refine lv_iload_n hx hb dL_law_923 rfl (lv_at hl 3 rfl) ?_
  refine lv_iconst (v := 1) hx hb dL_law_924 (by decide) ?_
  refine lv_iadd hx hb dL_law_925 ?_
  refine lv_topi (fun x1 ex1 => ?_)
  have tx1 : x1.toInt = v3.toInt + 1 := by rw [ex1]; exact i_add (b := 1) (by show -2147483648 ≤ v3.toInt + 1; omega) (by show v3.toInt + 1 ≤ 2147483647; omega)
  refine va_sld hx hb hX hbl hbA hS (vp_in_iff.mpr (by omega)) dL_law_926 ?_
  refine lv_topi (fun y2 ey2 => ?_)
  have htc := fun w h => hts0 w (hwL_X11_trial w h)
  refine wiV (C := RX11) (As := [.int y2]) (rest := []) ⟨hx, hb, hml, hown, htc⟩ (fun sz => t_X11_trial l D k u hu x m_x k_x y2 sz) (cwV 1 htc gS_X11_trial rfl rfl rfl (by decide +kernel) ⟨Nat.le_of_ble_eq_true rfl, Nat.le_of_ble_eq_true rfl⟩) hP hK hD hN hS hA (precv hK hP m_x (cF11 k_x) rfl) rfl hl.1 rfl (Nat.le_of_ble_eq_true rfl) dL_law_927 ⟨by show CC + _ ≤ 600000; omega, by show SS + _ ≤ 7302250; omega⟩ (fun r3 u4 H locs hq hP hD hS => ?_)
  obtain ⟨hu, hxu4, hr3⟩ := hq
  have hR := REL.px m_x k_x m_mm k_mm hR hxu4
  have k_x : u4.2.1 x = 11 := (hxu4 x m_x).2.1.trans k_x
  have m_x : x ∈ u4.1 := (hxu4 x m_x).1
  have k_mm : u4.2.1 mm = 12 := (hxu4 mm m_mm).2.1.trans k_mm
  have m_mm : mm ∈ u4.1 := (hxu4 mm m_mm).1
  refine lv_pop hx hb dL_law_930 rfl ?_
  refine lv_aload_n hx hb dL_law_931 rfl (lv_at hl 2 rfl) ?_
  refine lv_aload_n hx hb dL_law_932 rfl (lv_at hl 0 rfl) ?_
  refine lv_iload_n hx hb dL_law_933 rfl (lv_at hl 3 rfl) ?_
  refine lv_iconst (v := 1) hx hb dL_law_934 (by decide) ?_
  refine lv_iadd hx hb dL_law_935 ?_
  refine lv_topi (fun x5 ex5 => ?_)
  have tx5 : x5.toInt = v3.toInt + 1 := by rw [ex5]; exact i_add (b := 1) (by show -2147483648 ≤ v3.toInt + 1; omega) (by show v3.toInt + 1 ≤ 2147483647; omega)
  refine va_sld hx hb hX hbl hbA hS (vp_in_iff.mpr (by omega)) dL_law_936 ?_
  refine lv_topi (fun y6 ey6 => ?_)
  have qy6 : y6.toInt = y2.toInt := by rw [ey6, ey2, Int32.toInt_inj.mp (show x5.toInt = x1.toInt by omega)]
  have htc := fun w h => hts0 w (hwL_X12_trial w h)
  refine wiV (C := RX12) (As := [.int y6]) (rest := []) ⟨hx, hb, hml, hown, htc⟩ (fun sz => t_X12_trial l D k u4 hu mm m_mm k_mm y6 sz) (cwV 1 htc gS_X12_trial rfl rfl rfl (by decide +kernel) ⟨Nat.le_of_ble_eq_true rfl, Nat.le_of_ble_eq_true rfl⟩) hP hK hD hN hS hA (precv hK hP m_mm (cF12 k_mm) rfl) rfl hl.1 rfl (Nat.le_of_ble_eq_true rfl) dL_law_937 ⟨by show CC + _ ≤ 600000; omega, by show SS + _ ≤ 7302250; omega⟩ (fun r7 u8 H locs hq hP hD hS => ?_)
  obtain ⟨hu, hxu8, hr7⟩ := hq
  have hR := REL.px m_x k_x m_mm k_mm hR hxu8
  have k_x : u8.2.1 x = 11 := (hxu8 x m_x).2.1.trans k_x
  have m_x : x ∈ u8.1 := (hxu8 x m_x).1
  have k_mm : u8.2.1 mm = 12 := (hxu8 mm m_mm).2.1.trans k_mm
  have m_mm : mm ∈ u8.1 := (hxu8 mm m_mm).1
  refine lv_pop hx hb dL_law_940 rfl ?_
  refine lv_goto (tgt := 1769) hx hb dL_law_941 (by decide) ?_
  refine W.widen (k := CC + 389) (n := SS + 3227) (by omega) (by omega) ?_
  exact kk u8 _ _ ls hu m_x k_x m_mm k_mm hR hP hD hS hl
