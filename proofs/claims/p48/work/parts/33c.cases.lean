set_option maxHeartbeats 4000000 in
set_option maxRecDepth 100000 in
theorem law_24 {p : Program} {l : Launch} {e : Env} {s : State} {m : MethodId} {below : List Frame} {meth : Method} {c : Code} {b L : Nat} {xs : Nat → Int32} {D : va_G} {k : Nat → ClassId} {tt : TT} (C0 : lw_At p s m meth c b L xs) (hL : L ≤ 3072) (hN : NW s) (hK : va_K D vwCl (TYS k) s) (hE : SX tt (fun q : Nat => s.heap.size ≤ q) s s.heap) {x mm : Nat} {v3 : Int32} {CC SS : Nat} (hv : 0 ≤ v3.toInt ∧ v3.toInt + 6 ≤ L) (hC : CC + 389 ≤ 600000) (hSl : SS + 3227 ≤ 7302250) (kk : ∀ (u : PSt) (H : Heap) (locs : List Loc) (ls : Array Slot), WT u → x ∈ u.1 → u.2.1 x = 11 → mm ∈ u.1 → u.2.1 mm = 12 → REL u x mm → va_P D vwCl (PW k u) H → va_D (fun q : Nat => s.heap.size ≤ q) (PW k u) → va_S (fun q : Nat => s.heap.size ≤ q) s.heap H locs → lv_has ls 4 [(0, .ref b), (1, .ref x), (2, .ref mm), (3, .int v3)] → W p l e room_1 s m #[Value.ref b] below meth c H locs (CC + 389) (SS + 3227) (lw_Z below #[Value.ref b] s) (F0 m 1769 ls [])) {u : PSt} {H : Heap} {locs : List Loc} {ls : Array Slot} (hu : WT u) (m_x : x ∈ u.1) (k_x : u.2.1 x = 11) (m_mm : mm ∈ u.1) (k_mm : u.2.1 mm = 12) (hR : REL u x mm) (hP : va_P D vwCl (PW k u) H) (hD : va_D (fun q : Nat => s.heap.size ≤ q) (PW k u)) (hS : va_S (fun q : Nat => s.heap.size ≤ q) s.heap H locs) (hl : lv_has ls 4 [(0, .ref b), (1, .ref x), (2, .ref mm), (3, .int v3)]) : W p l e room_1 s m #[Value.ref b] below meth c H locs (CC) (SS) (lw_Z below #[Value.ref b] s) (F0 m 944 ls []) := by
  obtain ⟨hx, hb, hr, hml, hown, hts0, hX, hbl, hlocks, hgv⟩ := id C0
  have hA : ∀ q : Nat, s.heap.size ≤ q → (fun q : Nat => s.heap.size ≤ q) q := fun _ h => h
  have hbA : ¬ (fun q : Nat => s.heap.size ≤ q) b := Nat.not_le.mpr hbl
  refine lv_aload_n hx hb dL_law_944 rfl (lv_at hl 1 rfl) ?_
  have htc := fun w h => hts0 w (hwL_X11_show w h)
  refine wiV (C := RX11) (As := []) (rest := []) ⟨hx, hb, hml, hown, htc⟩ (fun sz => t_X11_show l D k u hu x m_x k_x  sz) (cwV 0 htc gS_X11_show rfl rfl rfl (by decide +kernel) ⟨Nat.le_of_ble_eq_true rfl, Nat.le_of_ble_eq_true rfl⟩) hP hK hD hN hS hA (precv hK hP m_x (cF11 k_x) rfl) rfl hl.1 rfl (Nat.le_of_ble_eq_true rfl) dL_law_945 ⟨by show CC + _ ≤ 600000; omega, by show SS + _ ≤ 7302250; omega⟩ (fun r1 u2 H locs hq hP hD hS => ?_)
  obtain ⟨hu, hxu2, hr1⟩ := hq
  have hR := REL.px m_x k_x m_mm k_mm hR hxu2
  have k_x : u2.2.1 x = 11 := (hxu2 x m_x).2.1.trans k_x
  have m_x : x ∈ u2.1 := (hxu2 x m_x).1
  have k_mm : u2.2.1 mm = 12 := (hxu2 mm m_mm).2.1.trans k_mm
  have m_mm : mm ∈ u2.1 := (hxu2 mm m_mm).1
  refine lv_pop hx hb dL_law_948 rfl ?_
  refine lv_aload_n hx hb dL_law_949 rfl (lv_at hl 2 rfl) ?_
  have htc := fun w h => hts0 w (hwL_X12_show w h)
  refine wiV (C := RX12) (As := []) (rest := []) ⟨hx, hb, hml, hown, htc⟩ (fun sz => t_X12_show l D k u2 hu mm m_mm k_mm  sz) (cwV 0 htc gS_X12_show rfl rfl rfl (by decide +kernel) ⟨Nat.le_of_ble_eq_true rfl, Nat.le_of_ble_eq_true rfl⟩) hP hK hD hN hS hA (precv hK hP m_mm (cF12 k_mm) rfl) rfl hl.1 rfl (Nat.le_of_ble_eq_true rfl) dL_law_950 ⟨by show CC + _ ≤ 600000; omega, by show SS + _ ≤ 7302250; omega⟩ (fun r3 u4 H locs hq hP hD hS => ?_)
  obtain ⟨hu, hxu4, hr3⟩ := hq
  have hR := REL.px m_x k_x m_mm k_mm hR hxu4
  have k_x : u4.2.1 x = 11 := (hxu4 x m_x).2.1.trans k_x
  have m_x : x ∈ u4.1 := (hxu4 x m_x).1
  have k_mm : u4.2.1 mm = 12 := (hxu4 mm m_mm).2.1.trans k_mm
  have m_mm : mm ∈ u4.1 := (hxu4 mm m_mm).1
  refine lv_pop hx hb dL_law_953 rfl ?_
  refine lv_goto (tgt := 1769) hx hb dL_law_954 (by decide) ?_
  refine W.widen (k := CC + 389) (n := SS + 3227) (by omega) (by omega) ?_
  exact kk u4 _ _ ls hu m_x k_x m_mm k_mm hR hP hD hS hl
set_option maxHeartbeats 4000000 in
set_option maxRecDepth 100000 in
theorem law_25 {p : Program} {l : Launch} {e : Env} {s : State} {m : MethodId} {below : List Frame} {meth : Method} {c : Code} {b L : Nat} {xs : Nat → Int32} {D : va_G} {k : Nat → ClassId} {tt : TT} (C0 : lw_At p s m meth c b L xs) (hL : L ≤ 3072) (hN : NW s) (hK : va_K D vwCl (TYS k) s) (hE : SX tt (fun q : Nat => s.heap.size ≤ q) s s.heap) {x mm : Nat} {v3 : Int32} {CC SS : Nat} (hv : 0 ≤ v3.toInt ∧ v3.toInt + 6 ≤ L) (hC : CC + 389 ≤ 600000) (hSl : SS + 3227 ≤ 7302250) (kk : ∀ (u : PSt) (H : Heap) (locs : List Loc) (ls : Array Slot), WT u → x ∈ u.1 → u.2.1 x = 11 → mm ∈ u.1 → u.2.1 mm = 12 → REL u x mm → va_P D vwCl (PW k u) H → va_D (fun q : Nat => s.heap.size ≤ q) (PW k u) → va_S (fun q : Nat => s.heap.size ≤ q) s.heap H locs → lv_has ls 4 [(0, .ref b), (1, .ref x), (2, .ref mm), (3, .int v3)] → W p l e room_1 s m #[Value.ref b] below meth c H locs (CC + 389) (SS + 3227) (lw_Z below #[Value.ref b] s) (F0 m 1769 ls [])) {u : PSt} {H : Heap} {locs : List Loc} {ls : Array Slot} (hu : WT u) (m_x : x ∈ u.1) (k_x : u.2.1 x = 11) (m_mm : mm ∈ u.1) (k_mm : u.2.1 mm = 12) (hR : REL u x mm) (hP : va_P D vwCl (PW k u) H) (hD : va_D (fun q : Nat => s.heap.size ≤ q) (PW k u)) (hS : va_S (fun q : Nat => s.heap.size ≤ q) s.heap H locs) (hl : lv_has ls 4 [(0, .ref b), (1, .ref x), (2, .ref mm), (3, .int v3)]) : W p l e room_1 s m #[Value.ref b] below meth c H locs (CC) (SS) (lw_Z below #[Value.ref b] s) (F0 m 957 ls []) := by
  obtain ⟨hx, hb, hr, hml, hown, hts0, hX, hbl, hlocks, hgv⟩ := id C0
  have hA : ∀ q : Nat, s.heap.size ≤ q → (fun q : Nat => s.heap.size ≤ q) q := fun _ h => h
  have hbA : ¬ (fun q : Nat => s.heap.size ≤ q) b := Nat.not_le.mpr hbl
  refine lv_aload_n hx hb dL_law_957 rfl (lv_at hl 1 rfl) ?_
  refine lv_aload_n hx hb dL_law_958 rfl (lv_at hl 0 rfl) ?_
  refine lv_iload_n hx hb dL_law_959 rfl (lv_at hl 3 rfl) ?_
  refine lv_iconst (v := 1) hx hb dL_law_960 (by decide) ?_
  refine lv_iadd hx hb dL_law_961 ?_
  refine lv_topi (fun x1 ex1 => ?_)
  have tx1 : x1.toInt = v3.toInt + 1 := by rw [ex1]; exact i_add (b := 1) (by show -2147483648 ≤ v3.toInt + 1; omega) (by show v3.toInt + 1 ≤ 2147483647; omega)
  refine va_sld hx hb hX hbl hbA hS (vp_in_iff.mpr (by omega)) dL_law_962 ?_
  refine lv_topi (fun y2 ey2 => ?_)
  refine lv_aload_n hx hb dL_law_963 rfl (lv_at hl 0 rfl) ?_
  refine lv_iload_n hx hb dL_law_964 rfl (lv_at hl 3 rfl) ?_
  refine lv_iconst (v := 2) hx hb dL_law_965 (by decide) ?_
  refine lv_iadd hx hb dL_law_966 ?_
  refine lv_topi (fun x3 ex3 => ?_)
  have tx3 : x3.toInt = v3.toInt + 2 := by rw [ex3]; exact i_add (b := 2) (by show -2147483648 ≤ v3.toInt + 2; omega) (by show v3.toInt + 2 ≤ 2147483647; omega)
  refine va_sld hx hb hX hbl hbA hS (vp_in_iff.mpr (by omega)) dL_law_967 ?_
  refine lv_topi (fun y4 ey4 => ?_)
  refine lv_aload_n hx hb dL_law_968 rfl (lv_at hl 0 rfl) ?_
  refine lv_iload_n hx hb dL_law_969 rfl (lv_at hl 3 rfl) ?_
  refine lv_iconst (v := 3) hx hb dL_law_970 (by decide) ?_
  refine lv_iadd hx hb dL_law_971 ?_
  refine lv_topi (fun x5 ex5 => ?_)
  have tx5 : x5.toInt = v3.toInt + 3 := by rw [ex5]; exact i_add (b := 3) (by show -2147483648 ≤ v3.toInt + 3; omega) (by show v3.toInt + 3 ≤ 2147483647; omega)
  refine va_sld hx hb hX hbl hbA hS (vp_in_iff.mpr (by omega)) dL_law_972 ?_
  refine lv_topi (fun y6 ey6 => ?_)
  have htc := fun w h => hts0 w (hwL_X11_reach w h)
  refine wiV (C := RX11) (As := [.int y2, .int y4, .int y6]) (rest := []) ⟨hx, hb, hml, hown, htc⟩ (fun sz => t_X11_reach l D k u hu x m_x k_x y2 y4 y6 sz) (cwV 3 htc gS_X11_reach rfl rfl rfl (by decide +kernel) ⟨Nat.le_of_ble_eq_true rfl, Nat.le_of_ble_eq_true rfl⟩) hP hK hD hN hS hA (precv hK hP m_x (cF11 k_x) rfl) rfl hl.1 rfl (Nat.le_of_ble_eq_true rfl) dL_law_973 ⟨by show CC + _ ≤ 600000; omega, by show SS + _ ≤ 7302250; omega⟩ (fun r7 u8 H locs hq hP hD hS => ?_)
  obtain ⟨hu, hxu8, hr7⟩ := hq
  have hR := REL.px m_x k_x m_mm k_mm hR hxu8
  have k_x : u8.2.1 x = 11 := (hxu8 x m_x).2.1.trans k_x
  have m_x : x ∈ u8.1 := (hxu8 x m_x).1
  have k_mm : u8.2.1 mm = 12 := (hxu8 mm m_mm).2.1.trans k_mm
  have m_mm : mm ∈ u8.1 := (hxu8 mm m_mm).1
  refine lv_pop hx hb dL_law_976 rfl ?_
  refine lv_aload_n hx hb dL_law_977 rfl (lv_at hl 2 rfl) ?_
  refine lv_aload_n hx hb dL_law_978 rfl (lv_at hl 0 rfl) ?_
  refine lv_iload_n hx hb dL_law_979 rfl (lv_at hl 3 rfl) ?_
  refine lv_iconst (v := 1) hx hb dL_law_980 (by decide) ?_
  refine lv_iadd hx hb dL_law_981 ?_
  refine lv_topi (fun x9 ex9 => ?_)
  have tx9 : x9.toInt = v3.toInt + 1 := by rw [ex9]; exact i_add (b := 1) (by show -2147483648 ≤ v3.toInt + 1; omega) (by show v3.toInt + 1 ≤ 2147483647; omega)
  refine va_sld hx hb hX hbl hbA hS (vp_in_iff.mpr (by omega)) dL_law_982 ?_
  refine lv_topi (fun y10 ey10 => ?_)
  have qy10 : y10.toInt = y2.toInt := by rw [ey10, ey2, Int32.toInt_inj.mp (show x9.toInt = x1.toInt by omega)]
  refine lv_aload_n hx hb dL_law_983 rfl (lv_at hl 0 rfl) ?_
  refine lv_iload_n hx hb dL_law_984 rfl (lv_at hl 3 rfl) ?_
  refine lv_iconst (v := 2) hx hb dL_law_985 (by decide) ?_
  refine lv_iadd hx hb dL_law_986 ?_
  refine lv_topi (fun x11 ex11 => ?_)
  have tx11 : x11.toInt = v3.toInt + 2 := by rw [ex11]; exact i_add (b := 2) (by show -2147483648 ≤ v3.toInt + 2; omega) (by show v3.toInt + 2 ≤ 2147483647; omega)
  refine va_sld hx hb hX hbl hbA hS (vp_in_iff.mpr (by omega)) dL_law_987 ?_
  refine lv_topi (fun y12 ey12 => ?_)
  have qy12 : y12.toInt = y4.toInt := by rw [ey12, ey4, Int32.toInt_inj.mp (show x11.toInt = x3.toInt by omega)]
  refine lv_aload_n hx hb dL_law_988 rfl (lv_at hl 0 rfl) ?_
  refine lv_iload_n hx hb dL_law_989 rfl (lv_at hl 3 rfl) ?_
  refine lv_iconst (v := 3) hx hb dL_law_990 (by decide) ?_
  refine lv_iadd hx hb dL_law_991 ?_
  refine lv_topi (fun x13 ex13 => ?_)
  have tx13 : x13.toInt = v3.toInt + 3 := by rw [ex13]; exact i_add (b := 3) (by show -2147483648 ≤ v3.toInt + 3; omega) (by show v3.toInt + 3 ≤ 2147483647; omega)
  refine va_sld hx hb hX hbl hbA hS (vp_in_iff.mpr (by omega)) dL_law_992 ?_
  refine lv_topi (fun y14 ey14 => ?_)
  have qy14 : y14.toInt = y6.toInt := by rw [ey14, ey6, Int32.toInt_inj.mp (show x13.toInt = x5.toInt by omega)]
  have htc := fun w h => hts0 w (hwL_X12_reach w h)
  refine rvi (C := RX12) (As := [.int y10, .int y12, .int y14]) (rest := []) ⟨hx, hb, hml, hown, htc⟩ (t_X12_reach l D k u8 hu mm m_mm k_mm y10 y12 y14) (cwV 3 htc gS_X12_reach rfl rfl rfl (by decide +kernel) ⟨Nat.le_of_ble_eq_true rfl, Nat.le_of_ble_eq_true rfl⟩) hP hK (precv hK hP m_mm (cF12 k_mm) rfl) rfl hl.1 rfl (Nat.le_of_ble_eq_true rfl) dL_law_993 ⟨by show CC ≤ 600000; omega, by show SS ≤ 7302250; omega⟩ (fun r15 hr15 => ?_)
  refine lv_pop hx hb dL_law_996 rfl ?_
  refine lv_goto (tgt := 1769) hx hb dL_law_997 (by decide) ?_
  refine W.widen (k := CC + 389) (n := SS + 3227) (by omega) (by omega) ?_
  exact kk u8 _ _ ls hu m_x k_x m_mm k_mm hR hP hD hS hl
set_option maxHeartbeats 4000000 in
set_option maxRecDepth 100000 in
theorem law_26 {p : Program} {l : Launch} {e : Env} {s : State} {m : MethodId} {below : List Frame} {meth : Method} {c : Code} {b L : Nat} {xs : Nat → Int32} {D : va_G} {k : Nat → ClassId} {tt : TT} (C0 : lw_At p s m meth c b L xs) (hL : L ≤ 3072) (hN : NW s) (hK : va_K D vwCl (TYS k) s) (hE : SX tt (fun q : Nat => s.heap.size ≤ q) s s.heap) {x mm : Nat} {v3 : Int32} {CC SS : Nat} (hv : 0 ≤ v3.toInt ∧ v3.toInt + 6 ≤ L) (hC : CC + 389 ≤ 600000) (hSl : SS + 3227 ≤ 7302250) (kk : ∀ (u : PSt) (H : Heap) (locs : List Loc) (ls : Array Slot), WT u → x ∈ u.1 → u.2.1 x = 11 → mm ∈ u.1 → u.2.1 mm = 12 → REL u x mm → va_P D vwCl (PW k u) H → va_D (fun q : Nat => s.heap.size ≤ q) (PW k u) → va_S (fun q : Nat => s.heap.size ≤ q) s.heap H locs → lv_has ls 4 [(0, .ref b), (1, .ref x), (2, .ref mm), (3, .int v3)] → W p l e room_1 s m #[Value.ref b] below meth c H locs (CC + 389) (SS + 3227) (lw_Z below #[Value.ref b] s) (F0 m 1769 ls [])) {u : PSt} {H : Heap} {locs : List Loc} {ls : Array Slot} (hu : WT u) (m_x : x ∈ u.1) (k_x : u.2.1 x = 11) (m_mm : mm ∈ u.1) (k_mm : u.2.1 mm = 12) (hR : REL u x mm) (hP : va_P D vwCl (PW k u) H) (hD : va_D (fun q : Nat => s.heap.size ≤ q) (PW k u)) (hS : va_S (fun q : Nat => s.heap.size ≤ q) s.heap H locs) (hl : lv_has ls 4 [(0, .ref b), (1, .ref x), (2, .ref mm), (3, .int v3)]) : W p l e room_1 s m #[Value.ref b] below meth c H locs (CC) (SS) (lw_Z below #[Value.ref b] s) (F0 m 1000 ls []) := by
  obtain ⟨hx, hb, hr, hml, hown, hts0, hX, hbl, hlocks, hgv⟩ := id C0
  have hA : ∀ q : Nat, s.heap.size ≤ q → (fun q : Nat => s.heap.size ≤ q) q := fun _ h => h
  have hbA : ¬ (fun q : Nat => s.heap.size ≤ q) b := Nat.not_le.mpr hbl
  refine lv_aload_n hx hb dL_law_1000 rfl (lv_at hl 1 rfl) ?_
  refine lv_aload_n hx hb dL_law_1001 rfl (lv_at hl 0 rfl) ?_
  refine lv_iload_n hx hb dL_law_1002 rfl (lv_at hl 3 rfl) ?_
  refine lv_iconst (v := 1) hx hb dL_law_1003 (by decide) ?_
  refine lv_iadd hx hb dL_law_1004 ?_
  refine lv_topi (fun x1 ex1 => ?_)
  have tx1 : x1.toInt = v3.toInt + 1 := by rw [ex1]; exact i_add (b := 1) (by show -2147483648 ≤ v3.toInt + 1; omega) (by show v3.toInt + 1 ≤ 2147483647; omega)
  refine va_sld hx hb hX hbl hbA hS (vp_in_iff.mpr (by omega)) dL_law_1005 ?_
  refine lv_topi (fun y2 ey2 => ?_)
  refine lv_aload_n hx hb dL_law_1006 rfl (lv_at hl 0 rfl) ?_
  refine lv_iload_n hx hb dL_law_1007 rfl (lv_at hl 3 rfl) ?_
  refine lv_iconst (v := 2) hx hb dL_law_1008 (by decide) ?_
  refine lv_iadd hx hb dL_law_1009 ?_
  refine lv_topi (fun x3 ex3 => ?_)
  have tx3 : x3.toInt = v3.toInt + 2 := by rw [ex3]; exact i_add (b := 2) (by show -2147483648 ≤ v3.toInt + 2; omega) (by show v3.toInt + 2 ≤ 2147483647; omega)
  refine va_sld hx hb hX hbl hbA hS (vp_in_iff.mpr (by omega)) dL_law_1010 ?_
  refine lv_topi (fun y4 ey4 => ?_)
  have htc := fun w h => hts0 w (hwL_X11_lights w h)
  refine wiV (C := RX11) (As := [.int y2, .int y4]) (rest := []) ⟨hx, hb, hml, hown, htc⟩ (fun sz => t_X11_lights l D k u hu x m_x k_x y2 y4 sz) (cwV 2 htc gS_X11_lights rfl rfl rfl (by decide +kernel) ⟨Nat.le_of_ble_eq_true rfl, Nat.le_of_ble_eq_true rfl⟩) hP hK hD hN hS hA (precv hK hP m_x (cF11 k_x) rfl) rfl hl.1 rfl (Nat.le_of_ble_eq_true rfl) dL_law_1011 ⟨by show CC + _ ≤ 600000; omega, by show SS + _ ≤ 7302250; omega⟩ (fun r5 u6 H locs hq hP hD hS => ?_)
  obtain ⟨hu, hxu6, hr5⟩ := hq
  have hR := REL.px m_x k_x m_mm k_mm hR hxu6
  have k_x : u6.2.1 x = 11 := (hxu6 x m_x).2.1.trans k_x
  have m_x : x ∈ u6.1 := (hxu6 x m_x).1
  have k_mm : u6.2.1 mm = 12 := (hxu6 mm m_mm).2.1.trans k_mm
  have m_mm : mm ∈ u6.1 := (hxu6 mm m_mm).1
  refine lv_pop hx hb dL_law_1014 rfl ?_
  refine lv_aload_n hx hb dL_law_1015 rfl (lv_at hl 2 rfl) ?_
  refine lv_aload_n hx hb dL_law_1016 rfl (lv_at hl 0 rfl) ?_
  refine lv_iload_n hx hb dL_law_1017 rfl (lv_at hl 3 rfl) ?_
  refine lv_iconst (v := 1) hx hb dL_law_1018 (by decide) ?_
  refine lv_iadd hx hb dL_law_1019 ?_
  refine lv_topi (fun x7 ex7 => ?_)
  have tx7 : x7.toInt = v3.toInt + 1 := by rw [ex7]; exact i_add (b := 1) (by show -2147483648 ≤ v3.toInt + 1; omega) (by show v3.toInt + 1 ≤ 2147483647; omega)
  refine va_sld hx hb hX hbl hbA hS (vp_in_iff.mpr (by omega)) dL_law_1020 ?_
  refine lv_topi (fun y8 ey8 => ?_)
  have qy8 : y8.toInt = y2.toInt := by rw [ey8, ey2, Int32.toInt_inj.mp (show x7.toInt = x1.toInt by omega)]
  refine lv_aload_n hx hb dL_law_1021 rfl (lv_at hl 0 rfl) ?_
  refine lv_iload_n hx hb dL_law_1022 rfl (lv_at hl 3 rfl) ?_
  refine lv_iconst (v := 2) hx hb dL_law_1023 (by decide) ?_
  refine lv_iadd hx hb dL_law_1024 ?_
  refine lv_topi (fun x9 ex9 => ?_)
  have tx9 : x9.toInt = v3.toInt + 2 := by rw [ex9]; exact i_add (b := 2) (by show -2147483648 ≤ v3.toInt + 2; omega) (by show v3.toInt + 2 ≤ 2147483647; omega)
  refine va_sld hx hb hX hbl hbA hS (vp_in_iff.mpr (by omega)) dL_law_1025 ?_
  refine lv_topi (fun y10 ey10 => ?_)
  have qy10 : y10.toInt = y4.toInt := by rw [ey10, ey4, Int32.toInt_inj.mp (show x9.toInt = x3.toInt by omega)]
  have htc := fun w h => hts0 w (hwL_X12_lights w h)
  refine rvi (C := RX12) (As := [.int y8, .int y10]) (rest := []) ⟨hx, hb, hml, hown, htc⟩ (t_X12_lights l D k u6 hu mm m_mm k_mm y8 y10) (cwV 2 htc gS_X12_lights rfl rfl rfl (by decide +kernel) ⟨Nat.le_of_ble_eq_true rfl, Nat.le_of_ble_eq_true rfl⟩) hP hK (precv hK hP m_mm (cF12 k_mm) rfl) rfl hl.1 rfl (Nat.le_of_ble_eq_true rfl) dL_law_1026 ⟨by show CC ≤ 600000; omega, by show SS ≤ 7302250; omega⟩ (fun r11 hr11 => ?_)
  refine lv_pop hx hb dL_law_1029 rfl ?_
  refine lv_goto (tgt := 1769) hx hb dL_law_1030 (by decide) ?_
  refine W.widen (k := CC + 389) (n := SS + 3227) (by omega) (by omega) ?_
  exact kk u6 _ _ ls hu m_x k_x m_mm k_mm hR hP hD hS hl
set_option maxHeartbeats 4000000 in
set_option maxRecDepth 100000 in
theorem law_27 {p : Program} {l : Launch} {e : Env} {s : State} {m : MethodId} {below : List Frame} {meth : Method} {c : Code} {b L : Nat} {xs : Nat → Int32} {D : va_G} {k : Nat → ClassId} {tt : TT} (C0 : lw_At p s m meth c b L xs) (hL : L ≤ 3072) (hN : NW s) (hK : va_K D vwCl (TYS k) s) (hE : SX tt (fun q : Nat => s.heap.size ≤ q) s s.heap) {x mm : Nat} {v3 : Int32} {CC SS : Nat} (hv : 0 ≤ v3.toInt ∧ v3.toInt + 6 ≤ L) (hC : CC + 389 ≤ 600000) (hSl : SS + 3227 ≤ 7302250) (kk : ∀ (u : PSt) (H : Heap) (locs : List Loc) (ls : Array Slot), WT u → x ∈ u.1 → u.2.1 x = 11 → mm ∈ u.1 → u.2.1 mm = 12 → REL u x mm → va_P D vwCl (PW k u) H → va_D (fun q : Nat => s.heap.size ≤ q) (PW k u) → va_S (fun q : Nat => s.heap.size ≤ q) s.heap H locs → lv_has ls 4 [(0, .ref b), (1, .ref x), (2, .ref mm), (3, .int v3)] → W p l e room_1 s m #[Value.ref b] below meth c H locs (CC + 389) (SS + 3227) (lw_Z below #[Value.ref b] s) (F0 m 1769 ls [])) {u : PSt} {H : Heap} {locs : List Loc} {ls : Array Slot} (hu : WT u) (m_x : x ∈ u.1) (k_x : u.2.1 x = 11) (m_mm : mm ∈ u.1) (k_mm : u.2.1 mm = 12) (hR : REL u x mm) (hP : va_P D vwCl (PW k u) H) (hD : va_D (fun q : Nat => s.heap.size ≤ q) (PW k u)) (hS : va_S (fun q : Nat => s.heap.size ≤ q) s.heap H locs) (hl : lv_has ls 4 [(0, .ref b), (1, .ref x), (2, .ref mm), (3, .int v3)]) : W p l e room_1 s m #[Value.ref b] below meth c H locs (CC) (SS) (lw_Z below #[Value.ref b] s) (F0 m 1033 ls []) := by
  obtain ⟨hx, hb, hr, hml, hown, hts0, hX, hbl, hlocks, hgv⟩ := id C0
  have hA : ∀ q : Nat, s.heap.size ≤ q → (fun q : Nat => s.heap.size ≤ q) q := fun _ h => h
  have hbA : ¬ (fun q : Nat => s.heap.size ≤ q) b := Nat.not_le.mpr hbl
  refine lv_aload_n hx hb dL_law_1033 rfl (lv_at hl 1 rfl) ?_
  refine lv_aload_n hx hb dL_law_1034 rfl (lv_at hl 0 rfl) ?_
  refine lv_iload_n hx hb dL_law_1035 rfl (lv_at hl 3 rfl) ?_
  refine lv_iconst (v := 1) hx hb dL_law_1036 (by decide) ?_
  refine lv_iadd hx hb dL_law_1037 ?_
  refine lv_topi (fun x1 ex1 => ?_)
  have tx1 : x1.toInt = v3.toInt + 1 := by rw [ex1]; exact i_add (b := 1) (by show -2147483648 ≤ v3.toInt + 1; omega) (by show v3.toInt + 1 ≤ 2147483647; omega)
  refine va_sld hx hb hX hbl hbA hS (vp_in_iff.mpr (by omega)) dL_law_1038 ?_
  refine lv_topi (fun y2 ey2 => ?_)
  refine lv_aload_n hx hb dL_law_1039 rfl (lv_at hl 0 rfl) ?_
  refine lv_iload_n hx hb dL_law_1040 rfl (lv_at hl 3 rfl) ?_
  refine lv_iconst (v := 2) hx hb dL_law_1041 (by decide) ?_
  refine lv_iadd hx hb dL_law_1042 ?_
  refine lv_topi (fun x3 ex3 => ?_)
  have tx3 : x3.toInt = v3.toInt + 2 := by rw [ex3]; exact i_add (b := 2) (by show -2147483648 ≤ v3.toInt + 2; omega) (by show v3.toInt + 2 ≤ 2147483647; omega)
  refine va_sld hx hb hX hbl hbA hS (vp_in_iff.mpr (by omega)) dL_law_1043 ?_
  refine lv_topi (fun y4 ey4 => ?_)
  have htc := fun w h => hts0 w (hwL_X11_taken w h)
  refine wiV (C := RX11) (As := [.int y2, .int y4]) (rest := []) ⟨hx, hb, hml, hown, htc⟩ (fun sz => t_X11_taken l D k u hu x m_x k_x y2 y4 sz) (cwV 2 htc gS_X11_taken rfl rfl rfl (by decide +kernel) ⟨Nat.le_of_ble_eq_true rfl, Nat.le_of_ble_eq_true rfl⟩) hP hK hD hN hS hA (precv hK hP m_x (cF11 k_x) rfl) rfl hl.1 rfl (Nat.le_of_ble_eq_true rfl) dL_law_1044 ⟨by show CC + _ ≤ 600000; omega, by show SS + _ ≤ 7302250; omega⟩ (fun r5 u6 H locs hq hP hD hS => ?_)
  obtain ⟨hu, hxu6, hr5⟩ := hq
  have hR := REL.px m_x k_x m_mm k_mm hR hxu6
  have k_x : u6.2.1 x = 11 := (hxu6 x m_x).2.1.trans k_x
  have m_x : x ∈ u6.1 := (hxu6 x m_x).1
  have k_mm : u6.2.1 mm = 12 := (hxu6 mm m_mm).2.1.trans k_mm
  have m_mm : mm ∈ u6.1 := (hxu6 mm m_mm).1
  refine lv_pop hx hb dL_law_1047 rfl ?_
  refine lv_aload_n hx hb dL_law_1048 rfl (lv_at hl 2 rfl) ?_
  refine lv_aload_n hx hb dL_law_1049 rfl (lv_at hl 0 rfl) ?_
  refine lv_iload_n hx hb dL_law_1050 rfl (lv_at hl 3 rfl) ?_
  refine lv_iconst (v := 1) hx hb dL_law_1051 (by decide) ?_
  refine lv_iadd hx hb dL_law_1052 ?_
  refine lv_topi (fun x7 ex7 => ?_)
  have tx7 : x7.toInt = v3.toInt + 1 := by rw [ex7]; exact i_add (b := 1) (by show -2147483648 ≤ v3.toInt + 1; omega) (by show v3.toInt + 1 ≤ 2147483647; omega)
  refine va_sld hx hb hX hbl hbA hS (vp_in_iff.mpr (by omega)) dL_law_1053 ?_
  refine lv_topi (fun y8 ey8 => ?_)
  have qy8 : y8.toInt = y2.toInt := by rw [ey8, ey2, Int32.toInt_inj.mp (show x7.toInt = x1.toInt by omega)]
  refine lv_aload_n hx hb dL_law_1054 rfl (lv_at hl 0 rfl) ?_
  refine lv_iload_n hx hb dL_law_1055 rfl (lv_at hl 3 rfl) ?_
  refine lv_iconst (v := 2) hx hb dL_law_1056 (by decide) ?_
  refine lv_iadd hx hb dL_law_1057 ?_
  refine lv_topi (fun x9 ex9 => ?_)
  have tx9 : x9.toInt = v3.toInt + 2 := by rw [ex9]; exact i_add (b := 2) (by show -2147483648 ≤ v3.toInt + 2; omega) (by show v3.toInt + 2 ≤ 2147483647; omega)
  refine va_sld hx hb hX hbl hbA hS (vp_in_iff.mpr (by omega)) dL_law_1058 ?_
  refine lv_topi (fun y10 ey10 => ?_)
  have qy10 : y10.toInt = y4.toInt := by rw [ey10, ey4, Int32.toInt_inj.mp (show x9.toInt = x3.toInt by omega)]
  have htc := fun w h => hts0 w (hwL_X12_taken_ w h)
  refine rvi (C := RX12) (As := [.int y8, .int y10]) (rest := []) ⟨hx, hb, hml, hown, htc⟩ (t_X12_taken_ l D k u6 hu mm m_mm k_mm y8 y10) (cwV 2 htc gS_X12_taken_ rfl rfl rfl (by decide +kernel) ⟨Nat.le_of_ble_eq_true rfl, Nat.le_of_ble_eq_true rfl⟩) hP hK (precv hK hP m_mm (cF12 k_mm) rfl) rfl hl.1 rfl (Nat.le_of_ble_eq_true rfl) dL_law_1059 ⟨by show CC ≤ 600000; omega, by show SS ≤ 7302250; omega⟩ (fun r11 hr11 => ?_)
  refine lv_pop hx hb dL_law_1062 rfl ?_
  refine lv_goto (tgt := 1769) hx hb dL_law_1063 (by decide) ?_
  refine W.widen (k := CC + 389) (n := SS + 3227) (by omega) (by omega) ?_
  exact kk u6 _ _ ls hu m_x k_x m_mm k_mm hR hP hD hS hl
set_option maxHeartbeats 4000000 in
set_option maxRecDepth 100000 in
theorem law_28 {p : Program} {l : Launch} {e : Env} {s : State} {m : MethodId} {below : List Frame} {meth : Method} {c : Code} {b L : Nat} {xs : Nat → Int32} {D : va_G} {k : Nat → ClassId} {tt : TT} (C0 : lw_At p s m meth c b L xs) (hL : L ≤ 3072) (hN : NW s) (hK : va_K D vwCl (TYS k) s) (hE : SX tt (fun q : Nat => s.heap.size ≤ q) s s.heap) {x mm : Nat} {v3 : Int32} {CC SS : Nat} (hv : 0 ≤ v3.toInt ∧ v3.toInt + 6 ≤ L) (hC : CC + 389 ≤ 600000) (hSl : SS + 3227 ≤ 7302250) (kk : ∀ (u : PSt) (H : Heap) (locs : List Loc) (ls : Array Slot), WT u → x ∈ u.1 → u.2.1 x = 11 → mm ∈ u.1 → u.2.1 mm = 12 → REL u x mm → va_P D vwCl (PW k u) H → va_D (fun q : Nat => s.heap.size ≤ q) (PW k u) → va_S (fun q : Nat => s.heap.size ≤ q) s.heap H locs → lv_has ls 4 [(0, .ref b), (1, .ref x), (2, .ref mm), (3, .int v3)] → W p l e room_1 s m #[Value.ref b] below meth c H locs (CC + 389) (SS + 3227) (lw_Z below #[Value.ref b] s) (F0 m 1769 ls [])) {u : PSt} {H : Heap} {locs : List Loc} {ls : Array Slot} (hu : WT u) (m_x : x ∈ u.1) (k_x : u.2.1 x = 11) (m_mm : mm ∈ u.1) (k_mm : u.2.1 mm = 12) (hR : REL u x mm) (hP : va_P D vwCl (PW k u) H) (hD : va_D (fun q : Nat => s.heap.size ≤ q) (PW k u)) (hS : va_S (fun q : Nat => s.heap.size ≤ q) s.heap H locs) (hl : lv_has ls 4 [(0, .ref b), (1, .ref x), (2, .ref mm), (3, .int v3)]) : W p l e room_1 s m #[Value.ref b] below meth c H locs (CC) (SS) (lw_Z below #[Value.ref b] s) (F0 m 1066 ls []) := by
  obtain ⟨hx, hb, hr, hml, hown, hts0, hX, hbl, hlocks, hgv⟩ := id C0
  have hA : ∀ q : Nat, s.heap.size ≤ q → (fun q : Nat => s.heap.size ≤ q) q := fun _ h => h
  have hbA : ¬ (fun q : Nat => s.heap.size ≤ q) b := Nat.not_le.mpr hbl
  refine lv_aload_n hx hb dL_law_1066 rfl (lv_at hl 1 rfl) ?_
  refine lv_aload_n hx hb dL_law_1067 rfl (lv_at hl 0 rfl) ?_
  refine lv_iload_n hx hb dL_law_1068 rfl (lv_at hl 3 rfl) ?_
  refine lv_iconst (v := 1) hx hb dL_law_1069 (by decide) ?_
  refine lv_iadd hx hb dL_law_1070 ?_
  refine lv_topi (fun x1 ex1 => ?_)
  have tx1 : x1.toInt = v3.toInt + 1 := by rw [ex1]; exact i_add (b := 1) (by show -2147483648 ≤ v3.toInt + 1; omega) (by show v3.toInt + 1 ≤ 2147483647; omega)
  refine va_sld hx hb hX hbl hbA hS (vp_in_iff.mpr (by omega)) dL_law_1071 ?_
  refine lv_topi (fun y2 ey2 => ?_)
  refine lv_aload_n hx hb dL_law_1072 rfl (lv_at hl 0 rfl) ?_
  refine lv_iload_n hx hb dL_law_1073 rfl (lv_at hl 3 rfl) ?_
  refine lv_iconst (v := 2) hx hb dL_law_1074 (by decide) ?_
  refine lv_iadd hx hb dL_law_1075 ?_
  refine lv_topi (fun x3 ex3 => ?_)
  have tx3 : x3.toInt = v3.toInt + 2 := by rw [ex3]; exact i_add (b := 2) (by show -2147483648 ≤ v3.toInt + 2; omega) (by show v3.toInt + 2 ≤ 2147483647; omega)
  refine va_sld hx hb hX hbl hbA hS (vp_in_iff.mpr (by omega)) dL_law_1076 ?_
  refine lv_topi (fun y4 ey4 => ?_)
  have htc := fun w h => hts0 w (hwL_X11_lives w h)
  refine wiV (C := RX11) (As := [.int y2, .int y4]) (rest := []) ⟨hx, hb, hml, hown, htc⟩ (fun sz => t_X11_lives l D k u hu x m_x k_x y2 y4 sz) (cwV 2 htc gS_X11_lives rfl rfl rfl (by decide +kernel) ⟨Nat.le_of_ble_eq_true rfl, Nat.le_of_ble_eq_true rfl⟩) hP hK hD hN hS hA (precv hK hP m_x (cF11 k_x) rfl) rfl hl.1 rfl (Nat.le_of_ble_eq_true rfl) dL_law_1077 ⟨by show CC + _ ≤ 600000; omega, by show SS + _ ≤ 7302250; omega⟩ (fun r5 u6 H locs hq hP hD hS => ?_)
  obtain ⟨hu, hxu6, hr5⟩ := hq
  have hR := REL.px m_x k_x m_mm k_mm hR hxu6
  have k_x : u6.2.1 x = 11 := (hxu6 x m_x).2.1.trans k_x
  have m_x : x ∈ u6.1 := (hxu6 x m_x).1
  have k_mm : u6.2.1 mm = 12 := (hxu6 mm m_mm).2.1.trans k_mm
  have m_mm : mm ∈ u6.1 := (hxu6 mm m_mm).1
  refine lv_pop hx hb dL_law_1080 rfl ?_
  refine lv_aload_n hx hb dL_law_1081 rfl (lv_at hl 2 rfl) ?_
  refine lv_aload_n hx hb dL_law_1082 rfl (lv_at hl 0 rfl) ?_
  refine lv_iload_n hx hb dL_law_1083 rfl (lv_at hl 3 rfl) ?_
  refine lv_iconst (v := 1) hx hb dL_law_1084 (by decide) ?_
  refine lv_iadd hx hb dL_law_1085 ?_
  refine lv_topi (fun x7 ex7 => ?_)
  have tx7 : x7.toInt = v3.toInt + 1 := by rw [ex7]; exact i_add (b := 1) (by show -2147483648 ≤ v3.toInt + 1; omega) (by show v3.toInt + 1 ≤ 2147483647; omega)
  refine va_sld hx hb hX hbl hbA hS (vp_in_iff.mpr (by omega)) dL_law_1086 ?_
  refine lv_topi (fun y8 ey8 => ?_)
  have qy8 : y8.toInt = y2.toInt := by rw [ey8, ey2, Int32.toInt_inj.mp (show x7.toInt = x1.toInt by omega)]
  refine lv_aload_n hx hb dL_law_1087 rfl (lv_at hl 0 rfl) ?_
  refine lv_iload_n hx hb dL_law_1088 rfl (lv_at hl 3 rfl) ?_
  refine lv_iconst (v := 2) hx hb dL_law_1089 (by decide) ?_
  refine lv_iadd hx hb dL_law_1090 ?_
  refine lv_topi (fun x9 ex9 => ?_)
  have tx9 : x9.toInt = v3.toInt + 2 := by rw [ex9]; exact i_add (b := 2) (by show -2147483648 ≤ v3.toInt + 2; omega) (by show v3.toInt + 2 ≤ 2147483647; omega)
  refine va_sld hx hb hX hbl hbA hS (vp_in_iff.mpr (by omega)) dL_law_1091 ?_
  refine lv_topi (fun y10 ey10 => ?_)
  have qy10 : y10.toInt = y4.toInt := by rw [ey10, ey4, Int32.toInt_inj.mp (show x9.toInt = x3.toInt by omega)]
  have htc := fun w h => hts0 w (hwL_X12_lives w h)
  refine rvi (C := RX12) (As := [.int y8, .int y10]) (rest := []) ⟨hx, hb, hml, hown, htc⟩ (t_X12_lives l D k u6 hu mm m_mm k_mm y8 y10) (cwV 2 htc gS_X12_lives rfl rfl rfl (by decide +kernel) ⟨Nat.le_of_ble_eq_true rfl, Nat.le_of_ble_eq_true rfl⟩) hP hK (precv hK hP m_mm (cF12 k_mm) rfl) rfl hl.1 rfl (Nat.le_of_ble_eq_true rfl) dL_law_1092 ⟨by show CC ≤ 600000; omega, by show SS ≤ 7302250; omega⟩ (fun r11 hr11 => ?_)
  refine lv_pop hx hb dL_law_1095 rfl ?_
  refine lv_goto (tgt := 1769) hx hb dL_law_1096 (by decide) ?_
  refine W.widen (k := CC + 389) (n := SS + 3227) (by omega) (by omega) ?_
  exact kk u6 _ _ ls hu m_x k_x m_mm k_mm hR hP hD hS hl
set_option maxHeartbeats 4000000 in
set_option maxRecDepth 100000 in
theorem law_29 {p : Program} {l : Launch} {e : Env} {s : State} {m : MethodId} {below : List Frame} {meth : Method} {c : Code} {b L : Nat} {xs : Nat → Int32} {D : va_G} {k : Nat → ClassId} {tt : TT} (C0 : lw_At p s m meth c b L xs) (hL : L ≤ 3072) (hN : NW s) (hK : va_K D vwCl (TYS k) s) (hE : SX tt (fun q : Nat => s.heap.size ≤ q) s s.heap) {x mm : Nat} {v3 : Int32} {CC SS : Nat} (hv : 0 ≤ v3.toInt ∧ v3.toInt + 6 ≤ L) (hC : CC + 389 ≤ 600000) (hSl : SS + 3227 ≤ 7302250) (kk : ∀ (u : PSt) (H : Heap) (locs : List Loc) (ls : Array Slot), WT u → x ∈ u.1 → u.2.1 x = 11 → mm ∈ u.1 → u.2.1 mm = 12 → REL u x mm → va_P D vwCl (PW k u) H → va_D (fun q : Nat => s.heap.size ≤ q) (PW k u) → va_S (fun q : Nat => s.heap.size ≤ q) s.heap H locs → lv_has ls 4 [(0, .ref b), (1, .ref x), (2, .ref mm), (3, .int v3)] → W p l e room_1 s m #[Value.ref b] below meth c H locs (CC + 389) (SS + 3227) (lw_Z below #[Value.ref b] s) (F0 m 1769 ls [])) {u : PSt} {H : Heap} {locs : List Loc} {ls : Array Slot} (hu : WT u) (m_x : x ∈ u.1) (k_x : u.2.1 x = 11) (m_mm : mm ∈ u.1) (k_mm : u.2.1 mm = 12) (hR : REL u x mm) (hP : va_P D vwCl (PW k u) H) (hD : va_D (fun q : Nat => s.heap.size ≤ q) (PW k u)) (hS : va_S (fun q : Nat => s.heap.size ≤ q) s.heap H locs) (hl : lv_has ls 4 [(0, .ref b), (1, .ref x), (2, .ref mm), (3, .int v3)]) : W p l e room_1 s m #[Value.ref b] below meth c H locs (CC) (SS) (lw_Z below #[Value.ref b] s) (F0 m 1099 ls []) := by
  obtain ⟨hx, hb, hr, hml, hown, hts0, hX, hbl, hlocks, hgv⟩ := id C0
  have hA : ∀ q : Nat, s.heap.size ≤ q → (fun q : Nat => s.heap.size ≤ q) q := fun _ h => h
  have hbA : ¬ (fun q : Nat => s.heap.size ≤ q) b := Nat.not_le.mpr hbl
  refine lv_aload_n hx hb dL_law_1099 rfl (lv_at hl 1 rfl) ?_
  refine lv_aload_n hx hb dL_law_1100 rfl (lv_at hl 0 rfl) ?_
  refine lv_iload_n hx hb dL_law_1101 rfl (lv_at hl 3 rfl) ?_
  refine lv_iconst (v := 1) hx hb dL_law_1102 (by decide) ?_
  refine lv_iadd hx hb dL_law_1103 ?_
  refine lv_topi (fun x1 ex1 => ?_)
  have tx1 : x1.toInt = v3.toInt + 1 := by rw [ex1]; exact i_add (b := 1) (by show -2147483648 ≤ v3.toInt + 1; omega) (by show v3.toInt + 1 ≤ 2147483647; omega)
  refine va_sld hx hb hX hbl hbA hS (vp_in_iff.mpr (by omega)) dL_law_1104 ?_
  refine lv_topi (fun y2 ey2 => ?_)
  refine lv_aload_n hx hb dL_law_1105 rfl (lv_at hl 0 rfl) ?_
  refine lv_iload_n hx hb dL_law_1106 rfl (lv_at hl 3 rfl) ?_
  refine lv_iconst (v := 2) hx hb dL_law_1107 (by decide) ?_
  refine lv_iadd hx hb dL_law_1108 ?_
  refine lv_topi (fun x3 ex3 => ?_)
  have tx3 : x3.toInt = v3.toInt + 2 := by rw [ex3]; exact i_add (b := 2) (by show -2147483648 ≤ v3.toInt + 2; omega) (by show v3.toInt + 2 ≤ 2147483647; omega)
  refine va_sld hx hb hX hbl hbA hS (vp_in_iff.mpr (by omega)) dL_law_1109 ?_
  refine lv_topi (fun y4 ey4 => ?_)
  refine lv_aload_n hx hb dL_law_1110 rfl (lv_at hl 0 rfl) ?_
  refine lv_iload_n hx hb dL_law_1111 rfl (lv_at hl 3 rfl) ?_
  refine lv_iconst (v := 3) hx hb dL_law_1112 (by decide) ?_
  refine lv_iadd hx hb dL_law_1113 ?_
  refine lv_topi (fun x5 ex5 => ?_)
  have tx5 : x5.toInt = v3.toInt + 3 := by rw [ex5]; exact i_add (b := 3) (by show -2147483648 ≤ v3.toInt + 3; omega) (by show v3.toInt + 3 ≤ 2147483647; omega)
  refine va_sld hx hb hX hbl hbA hS (vp_in_iff.mpr (by omega)) dL_law_1114 ?_
  refine lv_topi (fun y6 ey6 => ?_)
  have htc := fun w h => hts0 w (hwL_X11_when w h)
  refine wiV (C := RX11) (As := [.int y2, .int y4, .int y6]) (rest := []) ⟨hx, hb, hml, hown, htc⟩ (fun sz => t_X11_when l D k u hu x m_x k_x y2 y4 y6 sz) (cwV 3 htc gS_X11_when rfl rfl rfl (by decide +kernel) ⟨Nat.le_of_ble_eq_true rfl, Nat.le_of_ble_eq_true rfl⟩) hP hK hD hN hS hA (precv hK hP m_x (cF11 k_x) rfl) rfl hl.1 rfl (Nat.le_of_ble_eq_true rfl) dL_law_1115 ⟨by show CC + _ ≤ 600000; omega, by show SS + _ ≤ 7302250; omega⟩ (fun r7 u8 H locs hq hP hD hS => ?_)
  obtain ⟨hu, hxu8, hr7⟩ := hq
  have hR := REL.px m_x k_x m_mm k_mm hR hxu8
  have k_x : u8.2.1 x = 11 := (hxu8 x m_x).2.1.trans k_x
  have m_x : x ∈ u8.1 := (hxu8 x m_x).1
  have k_mm : u8.2.1 mm = 12 := (hxu8 mm m_mm).2.1.trans k_mm
  have m_mm : mm ∈ u8.1 := (hxu8 mm m_mm).1
  refine lv_pop hx hb dL_law_1118 rfl ?_
  refine lv_aload_n hx hb dL_law_1119 rfl (lv_at hl 2 rfl) ?_
  refine lv_aload_n hx hb dL_law_1120 rfl (lv_at hl 0 rfl) ?_
  refine lv_iload_n hx hb dL_law_1121 rfl (lv_at hl 3 rfl) ?_
  refine lv_iconst (v := 1) hx hb dL_law_1122 (by decide) ?_
  refine lv_iadd hx hb dL_law_1123 ?_
  refine lv_topi (fun x9 ex9 => ?_)
  have tx9 : x9.toInt = v3.toInt + 1 := by rw [ex9]; exact i_add (b := 1) (by show -2147483648 ≤ v3.toInt + 1; omega) (by show v3.toInt + 1 ≤ 2147483647; omega)
  refine va_sld hx hb hX hbl hbA hS (vp_in_iff.mpr (by omega)) dL_law_1124 ?_
  refine lv_topi (fun y10 ey10 => ?_)
  have qy10 : y10.toInt = y2.toInt := by rw [ey10, ey2, Int32.toInt_inj.mp (show x9.toInt = x1.toInt by omega)]
  refine lv_aload_n hx hb dL_law_1125 rfl (lv_at hl 0 rfl) ?_
  refine lv_iload_n hx hb dL_law_1126 rfl (lv_at hl 3 rfl) ?_
  refine lv_iconst (v := 2) hx hb dL_law_1127 (by decide) ?_
  refine lv_iadd hx hb dL_law_1128 ?_
  refine lv_topi (fun x11 ex11 => ?_)
  have tx11 : x11.toInt = v3.toInt + 2 := by rw [ex11]; exact i_add (b := 2) (by show -2147483648 ≤ v3.toInt + 2; omega) (by show v3.toInt + 2 ≤ 2147483647; omega)
  refine va_sld hx hb hX hbl hbA hS (vp_in_iff.mpr (by omega)) dL_law_1129 ?_
  refine lv_topi (fun y12 ey12 => ?_)
  have qy12 : y12.toInt = y4.toInt := by rw [ey12, ey4, Int32.toInt_inj.mp (show x11.toInt = x3.toInt by omega)]
  refine lv_aload_n hx hb dL_law_1130 rfl (lv_at hl 0 rfl) ?_
  refine lv_iload_n hx hb dL_law_1131 rfl (lv_at hl 3 rfl) ?_
  refine lv_iconst (v := 3) hx hb dL_law_1132 (by decide) ?_
  refine lv_iadd hx hb dL_law_1133 ?_
  refine lv_topi (fun x13 ex13 => ?_)
  have tx13 : x13.toInt = v3.toInt + 3 := by rw [ex13]; exact i_add (b := 3) (by show -2147483648 ≤ v3.toInt + 3; omega) (by show v3.toInt + 3 ≤ 2147483647; omega)
  refine va_sld hx hb hX hbl hbA hS (vp_in_iff.mpr (by omega)) dL_law_1134 ?_
  refine lv_topi (fun y14 ey14 => ?_)
  have qy14 : y14.toInt = y6.toInt := by rw [ey14, ey6, Int32.toInt_inj.mp (show x13.toInt = x5.toInt by omega)]
  have htc := fun w h => hts0 w (hwL_X12_when w h)
  refine rvi (C := RX12) (As := [.int y10, .int y12, .int y14]) (rest := []) ⟨hx, hb, hml, hown, htc⟩ (t_X12_when l D k u8 hu mm m_mm k_mm y10 y12 y14) (cwV 3 htc gS_X12_when rfl rfl rfl (by decide +kernel) ⟨Nat.le_of_ble_eq_true rfl, Nat.le_of_ble_eq_true rfl⟩) hP hK (precv hK hP m_mm (cF12 k_mm) rfl) rfl hl.1 rfl (Nat.le_of_ble_eq_true rfl) dL_law_1135 ⟨by show CC ≤ 600000; omega, by show SS ≤ 7302250; omega⟩ (fun r15 hr15 => ?_)
  refine lv_pop hx hb dL_law_1138 rfl ?_
  refine lv_goto (tgt := 1769) hx hb dL_law_1139 (by decide) ?_
  refine W.widen (k := CC + 389) (n := SS + 3227) (by omega) (by omega) ?_
  exact kk u8 _ _ ls hu m_x k_x m_mm k_mm hR hP hD hS hl
set_option maxHeartbeats 4000000 in
set_option maxRecDepth 100000 in
theorem law_30 {p : Program} {l : Launch} {e : Env} {s : State} {m : MethodId} {below : List Frame} {meth : Method} {c : Code} {b L : Nat} {xs : Nat → Int32} {D : va_G} {k : Nat → ClassId} {tt : TT} (C0 : lw_At p s m meth c b L xs) (hL : L ≤ 3072) (hN : NW s) (hK : va_K D vwCl (TYS k) s) (hE : SX tt (fun q : Nat => s.heap.size ≤ q) s s.heap) {x mm : Nat} {v3 : Int32} {CC SS : Nat} (hv : 0 ≤ v3.toInt ∧ v3.toInt + 6 ≤ L) (hC : CC + 389 ≤ 600000) (hSl : SS + 3227 ≤ 7302250) (kk : ∀ (u : PSt) (H : Heap) (locs : List Loc) (ls : Array Slot), WT u → x ∈ u.1 → u.2.1 x = 11 → mm ∈ u.1 → u.2.1 mm = 12 → REL u x mm → va_P D vwCl (PW k u) H → va_D (fun q : Nat => s.heap.size ≤ q) (PW k u) → va_S (fun q : Nat => s.heap.size ≤ q) s.heap H locs → lv_has ls 4 [(0, .ref b), (1, .ref x), (2, .ref mm), (3, .int v3)] → W p l e room_1 s m #[Value.ref b] below meth c H locs (CC + 389) (SS + 3227) (lw_Z below #[Value.ref b] s) (F0 m 1769 ls [])) {u : PSt} {H : Heap} {locs : List Loc} {ls : Array Slot} (hu : WT u) (m_x : x ∈ u.1) (k_x : u.2.1 x = 11) (m_mm : mm ∈ u.1) (k_mm : u.2.1 mm = 12) (hR : REL u x mm) (hP : va_P D vwCl (PW k u) H) (hD : va_D (fun q : Nat => s.heap.size ≤ q) (PW k u)) (hS : va_S (fun q : Nat => s.heap.size ≤ q) s.heap H locs) (hl : lv_has ls 4 [(0, .ref b), (1, .ref x), (2, .ref mm), (3, .int v3)]) : W p l e room_1 s m #[Value.ref b] below meth c H locs (CC) (SS) (lw_Z below #[Value.ref b] s) (F0 m 1142 ls []) := by
  obtain ⟨hx, hb, hr, hml, hown, hts0, hX, hbl, hlocks, hgv⟩ := id C0
  have hA : ∀ q : Nat, s.heap.size ≤ q → (fun q : Nat => s.heap.size ≤ q) q := fun _ h => h
  have hbA : ¬ (fun q : Nat => s.heap.size ≤ q) b := Nat.not_le.mpr hbl
  refine lv_aload_n hx hb dL_law_1142 rfl (lv_at hl 1 rfl) ?_
  refine lv_aload_n hx hb dL_law_1143 rfl (lv_at hl 0 rfl) ?_
  refine lv_iload_n hx hb dL_law_1144 rfl (lv_at hl 3 rfl) ?_
  refine lv_iconst (v := 1) hx hb dL_law_1145 (by decide) ?_
  refine lv_iadd hx hb dL_law_1146 ?_
  refine lv_topi (fun x1 ex1 => ?_)
  have tx1 : x1.toInt = v3.toInt + 1 := by rw [ex1]; exact i_add (b := 1) (by show -2147483648 ≤ v3.toInt + 1; omega) (by show v3.toInt + 1 ≤ 2147483647; omega)
  refine va_sld hx hb hX hbl hbA hS (vp_in_iff.mpr (by omega)) dL_law_1147 ?_
  refine lv_topi (fun y2 ey2 => ?_)
  refine lv_aload_n hx hb dL_law_1148 rfl (lv_at hl 0 rfl) ?_
  refine lv_iload_n hx hb dL_law_1149 rfl (lv_at hl 3 rfl) ?_
  refine lv_iconst (v := 2) hx hb dL_law_1150 (by decide) ?_
  refine lv_iadd hx hb dL_law_1151 ?_
  refine lv_topi (fun x3 ex3 => ?_)
  have tx3 : x3.toInt = v3.toInt + 2 := by rw [ex3]; exact i_add (b := 2) (by show -2147483648 ≤ v3.toInt + 2; omega) (by show v3.toInt + 2 ≤ 2147483647; omega)
  refine va_sld hx hb hX hbl hbA hS (vp_in_iff.mpr (by omega)) dL_law_1152 ?_
  refine lv_topi (fun y4 ey4 => ?_)
  refine lv_aload_n hx hb dL_law_1153 rfl (lv_at hl 0 rfl) ?_
  refine lv_iload_n hx hb dL_law_1154 rfl (lv_at hl 3 rfl) ?_
  refine lv_iconst (v := 3) hx hb dL_law_1155 (by decide) ?_
  refine lv_iadd hx hb dL_law_1156 ?_
  refine lv_topi (fun x5 ex5 => ?_)
  have tx5 : x5.toInt = v3.toInt + 3 := by rw [ex5]; exact i_add (b := 3) (by show -2147483648 ≤ v3.toInt + 3; omega) (by show v3.toInt + 3 ≤ 2147483647; omega)
  refine va_sld hx hb hX hbl hbA hS (vp_in_iff.mpr (by omega)) dL_law_1157 ?_
  refine lv_topi (fun y6 ey6 => ?_)
  refine lv_aload_n hx hb dL_law_1158 rfl (lv_at hl 0 rfl) ?_
  refine lv_iload_n hx hb dL_law_1159 rfl (lv_at hl 3 rfl) ?_
  refine lv_iconst (v := 4) hx hb dL_law_1160 (by decide) ?_
  refine lv_iadd hx hb dL_law_1161 ?_
  refine lv_topi (fun x7 ex7 => ?_)
  have tx7 : x7.toInt = v3.toInt + 4 := by rw [ex7]; exact i_add (b := 4) (by show -2147483648 ≤ v3.toInt + 4; omega) (by show v3.toInt + 4 ≤ 2147483647; omega)
  refine va_sld hx hb hX hbl hbA hS (vp_in_iff.mpr (by omega)) dL_law_1162 ?_
  refine lv_topi (fun y8 ey8 => ?_)
  refine lv_aload_n hx hb dL_law_1163 rfl (lv_at hl 0 rfl) ?_
  refine lv_iload_n hx hb dL_law_1164 rfl (lv_at hl 3 rfl) ?_
  refine lv_iconst (v := 5) hx hb dL_law_1165 (by decide) ?_
  refine lv_iadd hx hb dL_law_1166 ?_
  refine lv_topi (fun x9 ex9 => ?_)
  have tx9 : x9.toInt = v3.toInt + 5 := by rw [ex9]; exact i_add (b := 5) (by show -2147483648 ≤ v3.toInt + 5; omega) (by show v3.toInt + 5 ≤ 2147483647; omega)
  refine va_sld hx hb hX hbl hbA hS (vp_in_iff.mpr (by omega)) dL_law_1167 ?_
  refine lv_topi (fun y10 ey10 => ?_)
  have htc := fun w h => hts0 w (hwL_X11_moved w h)
  refine wiV (C := RX11) (As := [.int y2, .int y4, .int y6, .int y8, .int y10]) (rest := []) ⟨hx, hb, hml, hown, htc⟩ (fun sz => t_X11_moved l D k u hu x m_x k_x y2 y4 y6 y8 y10 sz) (cwV 5 htc gS_X11_moved rfl rfl rfl (by decide +kernel) ⟨Nat.le_of_ble_eq_true rfl, Nat.le_of_ble_eq_true rfl⟩) hP hK hD hN hS hA (precv hK hP m_x (cF11 k_x) rfl) rfl hl.1 rfl (Nat.le_of_ble_eq_true rfl) dL_law_1168 ⟨by show CC + _ ≤ 600000; omega, by show SS + _ ≤ 7302250; omega⟩ (fun r11 u12 H locs hq hP hD hS => ?_)
  obtain ⟨hu, hxu12, hr11⟩ := hq
  have hR := REL.px m_x k_x m_mm k_mm hR hxu12
  have k_x : u12.2.1 x = 11 := (hxu12 x m_x).2.1.trans k_x
  have m_x : x ∈ u12.1 := (hxu12 x m_x).1
  have k_mm : u12.2.1 mm = 12 := (hxu12 mm m_mm).2.1.trans k_mm
  have m_mm : mm ∈ u12.1 := (hxu12 mm m_mm).1
  refine lv_pop hx hb dL_law_1171 rfl ?_
  refine lv_aload_n hx hb dL_law_1172 rfl (lv_at hl 2 rfl) ?_
  refine lv_aload_n hx hb dL_law_1173 rfl (lv_at hl 0 rfl) ?_
  refine lv_iload_n hx hb dL_law_1174 rfl (lv_at hl 3 rfl) ?_
  refine lv_iconst (v := 1) hx hb dL_law_1175 (by decide) ?_
  refine lv_iadd hx hb dL_law_1176 ?_
  refine lv_topi (fun x13 ex13 => ?_)
  have tx13 : x13.toInt = v3.toInt + 1 := by rw [ex13]; exact i_add (b := 1) (by show -2147483648 ≤ v3.toInt + 1; omega) (by show v3.toInt + 1 ≤ 2147483647; omega)
  refine va_sld hx hb hX hbl hbA hS (vp_in_iff.mpr (by omega)) dL_law_1177 ?_
  refine lv_topi (fun y14 ey14 => ?_)
  have qy14 : y14.toInt = y2.toInt := by rw [ey14, ey2, Int32.toInt_inj.mp (show x13.toInt = x1.toInt by omega)]
  refine lv_aload_n hx hb dL_law_1178 rfl (lv_at hl 0 rfl) ?_
  refine lv_iload_n hx hb dL_law_1179 rfl (lv_at hl 3 rfl) ?_
  refine lv_iconst (v := 2) hx hb dL_law_1180 (by decide) ?_
  refine lv_iadd hx hb dL_law_1181 ?_
  refine lv_topi (fun x15 ex15 => ?_)
  have tx15 : x15.toInt = v3.toInt + 2 := by rw [ex15]; exact i_add (b := 2) (by show -2147483648 ≤ v3.toInt + 2; omega) (by show v3.toInt + 2 ≤ 2147483647; omega)
  refine va_sld hx hb hX hbl hbA hS (vp_in_iff.mpr (by omega)) dL_law_1182 ?_
  refine lv_topi (fun y16 ey16 => ?_)
  have qy16 : y16.toInt = y4.toInt := by rw [ey16, ey4, Int32.toInt_inj.mp (show x15.toInt = x3.toInt by omega)]
  refine lv_aload_n hx hb dL_law_1183 rfl (lv_at hl 0 rfl) ?_
  refine lv_iload_n hx hb dL_law_1184 rfl (lv_at hl 3 rfl) ?_
  refine lv_iconst (v := 3) hx hb dL_law_1185 (by decide) ?_
  refine lv_iadd hx hb dL_law_1186 ?_
  refine lv_topi (fun x17 ex17 => ?_)
  have tx17 : x17.toInt = v3.toInt + 3 := by rw [ex17]; exact i_add (b := 3) (by show -2147483648 ≤ v3.toInt + 3; omega) (by show v3.toInt + 3 ≤ 2147483647; omega)
  refine va_sld hx hb hX hbl hbA hS (vp_in_iff.mpr (by omega)) dL_law_1187 ?_
  refine lv_topi (fun y18 ey18 => ?_)
  have qy18 : y18.toInt = y6.toInt := by rw [ey18, ey6, Int32.toInt_inj.mp (show x17.toInt = x5.toInt by omega)]
  refine lv_aload_n hx hb dL_law_1188 rfl (lv_at hl 0 rfl) ?_
  refine lv_iload_n hx hb dL_law_1189 rfl (lv_at hl 3 rfl) ?_
  refine lv_iconst (v := 4) hx hb dL_law_1190 (by decide) ?_
  refine lv_iadd hx hb dL_law_1191 ?_
  refine lv_topi (fun x19 ex19 => ?_)
  have tx19 : x19.toInt = v3.toInt + 4 := by rw [ex19]; exact i_add (b := 4) (by show -2147483648 ≤ v3.toInt + 4; omega) (by show v3.toInt + 4 ≤ 2147483647; omega)
  refine va_sld hx hb hX hbl hbA hS (vp_in_iff.mpr (by omega)) dL_law_1192 ?_
  refine lv_topi (fun y20 ey20 => ?_)
  have qy20 : y20.toInt = y8.toInt := by rw [ey20, ey8, Int32.toInt_inj.mp (show x19.toInt = x7.toInt by omega)]
  refine lv_aload_n hx hb dL_law_1193 rfl (lv_at hl 0 rfl) ?_
  refine lv_iload_n hx hb dL_law_1194 rfl (lv_at hl 3 rfl) ?_
  refine lv_iconst (v := 5) hx hb dL_law_1195 (by decide) ?_
  refine lv_iadd hx hb dL_law_1196 ?_
  refine lv_topi (fun x21 ex21 => ?_)
  have tx21 : x21.toInt = v3.toInt + 5 := by rw [ex21]; exact i_add (b := 5) (by show -2147483648 ≤ v3.toInt + 5; omega) (by show v3.toInt + 5 ≤ 2147483647; omega)
  refine va_sld hx hb hX hbl hbA hS (vp_in_iff.mpr (by omega)) dL_law_1197 ?_
  refine lv_topi (fun y22 ey22 => ?_)
  have qy22 : y22.toInt = y10.toInt := by rw [ey22, ey10, Int32.toInt_inj.mp (show x21.toInt = x9.toInt by omega)]
  have htc := fun w h => hts0 w (hwL_X12_moved w h)
  refine wiV (C := RX12) (As := [.int y14, .int y16, .int y18, .int y20, .int y22]) (rest := []) ⟨hx, hb, hml, hown, htc⟩ (fun sz => t_X12_moved l D k u12 hu mm m_mm k_mm y14 y16 y18 y20 y22 sz) (cwV 5 htc gS_X12_moved rfl rfl rfl (by decide +kernel) ⟨Nat.le_of_ble_eq_true rfl, Nat.le_of_ble_eq_true rfl⟩) hP hK hD hN hS hA (precv hK hP m_mm (cF12 k_mm) rfl) rfl hl.1 rfl (Nat.le_of_ble_eq_true rfl) dL_law_1198 ⟨by show CC + _ ≤ 600000; omega, by show SS + _ ≤ 7302250; omega⟩ (fun r23 u24 H locs hq hP hD hS => ?_)
  obtain ⟨hu, hxu24, hr23⟩ := hq
  have hR := REL.px m_x k_x m_mm k_mm hR hxu24
  have k_x : u24.2.1 x = 11 := (hxu24 x m_x).2.1.trans k_x
  have m_x : x ∈ u24.1 := (hxu24 x m_x).1
  have k_mm : u24.2.1 mm = 12 := (hxu24 mm m_mm).2.1.trans k_mm
  have m_mm : mm ∈ u24.1 := (hxu24 mm m_mm).1
  refine lv_pop hx hb dL_law_1201 rfl ?_
  refine lv_goto (tgt := 1769) hx hb dL_law_1202 (by decide) ?_
  refine W.widen (k := CC + 389) (n := SS + 3227) (by omega) (by omega) ?_
  exact kk u24 _ _ ls hu m_x k_x m_mm k_mm hR hP hD hS hl
set_option maxHeartbeats 4000000 in
set_option maxRecDepth 100000 in
theorem law_31 {p : Program} {l : Launch} {e : Env} {s : State} {m : MethodId} {below : List Frame} {meth : Method} {c : Code} {b L : Nat} {xs : Nat → Int32} {D : va_G} {k : Nat → ClassId} {tt : TT} (C0 : lw_At p s m meth c b L xs) (hL : L ≤ 3072) (hN : NW s) (hK : va_K D vwCl (TYS k) s) (hE : SX tt (fun q : Nat => s.heap.size ≤ q) s s.heap) {x mm : Nat} {v3 : Int32} {CC SS : Nat} (hv : 0 ≤ v3.toInt ∧ v3.toInt + 6 ≤ L) (hC : CC + 389 ≤ 600000) (hSl : SS + 3227 ≤ 7302250) (kk : ∀ (u : PSt) (H : Heap) (locs : List Loc) (ls : Array Slot), WT u → x ∈ u.1 → u.2.1 x = 11 → mm ∈ u.1 → u.2.1 mm = 12 → REL u x mm → va_P D vwCl (PW k u) H → va_D (fun q : Nat => s.heap.size ≤ q) (PW k u) → va_S (fun q : Nat => s.heap.size ≤ q) s.heap H locs → lv_has ls 4 [(0, .ref b), (1, .ref x), (2, .ref mm), (3, .int v3)] → W p l e room_1 s m #[Value.ref b] below meth c H locs (CC + 389) (SS + 3227) (lw_Z below #[Value.ref b] s) (F0 m 1769 ls [])) {u : PSt} {H : Heap} {locs : List Loc} {ls : Array Slot} (hu : WT u) (m_x : x ∈ u.1) (k_x : u.2.1 x = 11) (m_mm : mm ∈ u.1) (k_mm : u.2.1 mm = 12) (hR : REL u x mm) (hP : va_P D vwCl (PW k u) H) (hD : va_D (fun q : Nat => s.heap.size ≤ q) (PW k u)) (hS : va_S (fun q : Nat => s.heap.size ≤ q) s.heap H locs) (hl : lv_has ls 4 [(0, .ref b), (1, .ref x), (2, .ref mm), (3, .int v3)]) : W p l e room_1 s m #[Value.ref b] below meth c H locs (CC) (SS) (lw_Z below #[Value.ref b] s) (F0 m 1205 ls []) := by
  obtain ⟨hx, hb, hr, hml, hown, hts0, hX, hbl, hlocks, hgv⟩ := id C0
  have hA : ∀ q : Nat, s.heap.size ≤ q → (fun q : Nat => s.heap.size ≤ q) q := fun _ h => h
  have hbA : ¬ (fun q : Nat => s.heap.size ≤ q) b := Nat.not_le.mpr hbl
  refine lv_aload_n hx hb dL_law_1205 rfl (lv_at hl 1 rfl) ?_
  refine lv_aload_n hx hb dL_law_1206 rfl (lv_at hl 0 rfl) ?_
  refine lv_iload_n hx hb dL_law_1207 rfl (lv_at hl 3 rfl) ?_
  refine lv_iconst (v := 1) hx hb dL_law_1208 (by decide) ?_
  refine lv_iadd hx hb dL_law_1209 ?_
  refine lv_topi (fun x1 ex1 => ?_)
  have tx1 : x1.toInt = v3.toInt + 1 := by rw [ex1]; exact i_add (b := 1) (by show -2147483648 ≤ v3.toInt + 1; omega) (by show v3.toInt + 1 ≤ 2147483647; omega)
  refine va_sld hx hb hX hbl hbA hS (vp_in_iff.mpr (by omega)) dL_law_1210 ?_
  refine lv_topi (fun y2 ey2 => ?_)
  refine lv_aload_n hx hb dL_law_1211 rfl (lv_at hl 0 rfl) ?_
  refine lv_iload_n hx hb dL_law_1212 rfl (lv_at hl 3 rfl) ?_
  refine lv_iconst (v := 2) hx hb dL_law_1213 (by decide) ?_
  refine lv_iadd hx hb dL_law_1214 ?_
  refine lv_topi (fun x3 ex3 => ?_)
  have tx3 : x3.toInt = v3.toInt + 2 := by rw [ex3]; exact i_add (b := 2) (by show -2147483648 ≤ v3.toInt + 2; omega) (by show v3.toInt + 2 ≤ 2147483647; omega)
  refine va_sld hx hb hX hbl hbA hS (vp_in_iff.mpr (by omega)) dL_law_1215 ?_
  refine lv_topi (fun y4 ey4 => ?_)
  refine lv_aload_n hx hb dL_law_1216 rfl (lv_at hl 0 rfl) ?_
  refine lv_iload_n hx hb dL_law_1217 rfl (lv_at hl 3 rfl) ?_
  refine lv_iconst (v := 3) hx hb dL_law_1218 (by decide) ?_
  refine lv_iadd hx hb dL_law_1219 ?_
  refine lv_topi (fun x5 ex5 => ?_)
  have tx5 : x5.toInt = v3.toInt + 3 := by rw [ex5]; exact i_add (b := 3) (by show -2147483648 ≤ v3.toInt + 3; omega) (by show v3.toInt + 3 ≤ 2147483647; omega)
  refine va_sld hx hb hX hbl hbA hS (vp_in_iff.mpr (by omega)) dL_law_1220 ?_
  refine lv_topi (fun y6 ey6 => ?_)
  have htc := fun w h => hts0 w (hwL_X11_risk w h)
  refine wiV (C := RX11) (As := [.int y2, .int y4, .int y6]) (rest := []) ⟨hx, hb, hml, hown, htc⟩ (fun sz => t_X11_risk l D k u hu x m_x k_x y2 y4 y6 sz) (cwV 3 htc gS_X11_risk rfl rfl rfl (by decide +kernel) ⟨Nat.le_of_ble_eq_true rfl, Nat.le_of_ble_eq_true rfl⟩) hP hK hD hN hS hA (precv hK hP m_x (cF11 k_x) rfl) rfl hl.1 rfl (Nat.le_of_ble_eq_true rfl) dL_law_1221 ⟨by show CC + _ ≤ 600000; omega, by show SS + _ ≤ 7302250; omega⟩ (fun r7 u8 H locs hq hP hD hS => ?_)
  obtain ⟨hu, hxu8, hr7⟩ := hq
  have hR := REL.px m_x k_x m_mm k_mm hR hxu8
  have k_x : u8.2.1 x = 11 := (hxu8 x m_x).2.1.trans k_x
  have m_x : x ∈ u8.1 := (hxu8 x m_x).1
  have k_mm : u8.2.1 mm = 12 := (hxu8 mm m_mm).2.1.trans k_mm
  have m_mm : mm ∈ u8.1 := (hxu8 mm m_mm).1
  refine lv_pop hx hb dL_law_1224 rfl ?_
  refine lv_aload_n hx hb dL_law_1225 rfl (lv_at hl 2 rfl) ?_
  refine lv_aload_n hx hb dL_law_1226 rfl (lv_at hl 0 rfl) ?_
  refine lv_iload_n hx hb dL_law_1227 rfl (lv_at hl 3 rfl) ?_
  refine lv_iconst (v := 1) hx hb dL_law_1228 (by decide) ?_
  refine lv_iadd hx hb dL_law_1229 ?_
  refine lv_topi (fun x9 ex9 => ?_)
  have tx9 : x9.toInt = v3.toInt + 1 := by rw [ex9]; exact i_add (b := 1) (by show -2147483648 ≤ v3.toInt + 1; omega) (by show v3.toInt + 1 ≤ 2147483647; omega)
  refine va_sld hx hb hX hbl hbA hS (vp_in_iff.mpr (by omega)) dL_law_1230 ?_
  refine lv_topi (fun y10 ey10 => ?_)
  have qy10 : y10.toInt = y2.toInt := by rw [ey10, ey2, Int32.toInt_inj.mp (show x9.toInt = x1.toInt by omega)]
  refine lv_aload_n hx hb dL_law_1231 rfl (lv_at hl 0 rfl) ?_
  refine lv_iload_n hx hb dL_law_1232 rfl (lv_at hl 3 rfl) ?_
  refine lv_iconst (v := 2) hx hb dL_law_1233 (by decide) ?_
  refine lv_iadd hx hb dL_law_1234 ?_
  refine lv_topi (fun x11 ex11 => ?_)
  have tx11 : x11.toInt = v3.toInt + 2 := by rw [ex11]; exact i_add (b := 2) (by show -2147483648 ≤ v3.toInt + 2; omega) (by show v3.toInt + 2 ≤ 2147483647; omega)
  refine va_sld hx hb hX hbl hbA hS (vp_in_iff.mpr (by omega)) dL_law_1235 ?_
  refine lv_topi (fun y12 ey12 => ?_)
  have qy12 : y12.toInt = y4.toInt := by rw [ey12, ey4, Int32.toInt_inj.mp (show x11.toInt = x3.toInt by omega)]
  refine lv_aload_n hx hb dL_law_1236 rfl (lv_at hl 0 rfl) ?_
  refine lv_iload_n hx hb dL_law_1237 rfl (lv_at hl 3 rfl) ?_
  refine lv_iconst (v := 3) hx hb dL_law_1238 (by decide) ?_
  refine lv_iadd hx hb dL_law_1239 ?_
  refine lv_topi (fun x13 ex13 => ?_)
  have tx13 : x13.toInt = v3.toInt + 3 := by rw [ex13]; exact i_add (b := 3) (by show -2147483648 ≤ v3.toInt + 3; omega) (by show v3.toInt + 3 ≤ 2147483647; omega)
  refine va_sld hx hb hX hbl hbA hS (vp_in_iff.mpr (by omega)) dL_law_1240 ?_
  refine lv_topi (fun y14 ey14 => ?_)
  have qy14 : y14.toInt = y6.toInt := by rw [ey14, ey6, Int32.toInt_inj.mp (show x13.toInt = x5.toInt by omega)]
  have htc := fun w h => hts0 w (hwL_X12_risk w h)
  refine rvi (C := RX12) (As := [.int y10, .int y12, .int y14]) (rest := []) ⟨hx, hb, hml, hown, htc⟩ (t_X12_risk l D k u8 hu mm m_mm k_mm y10 y12 y14) (cwV 3 htc gS_X12_risk rfl rfl rfl (by decide +kernel) ⟨Nat.le_of_ble_eq_true rfl, Nat.le_of_ble_eq_true rfl⟩) hP hK (precv hK hP m_mm (cF12 k_mm) rfl) rfl hl.1 rfl (Nat.le_of_ble_eq_true rfl) dL_law_1241 ⟨by show CC ≤ 600000; omega, by show SS ≤ 7302250; omega⟩ (fun r15 hr15 => ?_)
  refine lv_pop hx hb dL_law_1244 rfl ?_
  refine lv_goto (tgt := 1769) hx hb dL_law_1245 (by decide) ?_
  refine W.widen (k := CC + 389) (n := SS + 3227) (by omega) (by omega) ?_
  exact kk u8 _ _ ls hu m_x k_x m_mm k_mm hR hP hD hS hl
set_option maxHeartbeats 4000000 in
set_option maxRecDepth 100000 in
theorem law_32 {p : Program} {l : Launch} {e : Env} {s : State} {m : MethodId} {below : List Frame} {meth : Method} {c : Code} {b L : Nat} {xs : Nat → Int32} {D : va_G} {k : Nat → ClassId} {tt : TT} (C0 : lw_At p s m meth c b L xs) (hL : L ≤ 3072) (hN : NW s) (hK : va_K D vwCl (TYS k) s) (hE : SX tt (fun q : Nat => s.heap.size ≤ q) s s.heap) {x mm : Nat} {v3 : Int32} {CC SS : Nat} (hv : 0 ≤ v3.toInt ∧ v3.toInt + 6 ≤ L) (hC : CC + 389 ≤ 600000) (hSl : SS + 3227 ≤ 7302250) (kk : ∀ (u : PSt) (H : Heap) (locs : List Loc) (ls : Array Slot), WT u → x ∈ u.1 → u.2.1 x = 11 → mm ∈ u.1 → u.2.1 mm = 12 → REL u x mm → va_P D vwCl (PW k u) H → va_D (fun q : Nat => s.heap.size ≤ q) (PW k u) → va_S (fun q : Nat => s.heap.size ≤ q) s.heap H locs → lv_has ls 4 [(0, .ref b), (1, .ref x), (2, .ref mm), (3, .int v3)] → W p l e room_1 s m #[Value.ref b] below meth c H locs (CC + 389) (SS + 3227) (lw_Z below #[Value.ref b] s) (F0 m 1769 ls [])) {u : PSt} {H : Heap} {locs : List Loc} {ls : Array Slot} (hu : WT u) (m_x : x ∈ u.1) (k_x : u.2.1 x = 11) (m_mm : mm ∈ u.1) (k_mm : u.2.1 mm = 12) (hR : REL u x mm) (hP : va_P D vwCl (PW k u) H) (hD : va_D (fun q : Nat => s.heap.size ≤ q) (PW k u)) (hS : va_S (fun q : Nat => s.heap.size ≤ q) s.heap H locs) (hl : lv_has ls 4 [(0, .ref b), (1, .ref x), (2, .ref mm), (3, .int v3)]) : W p l e room_1 s m #[Value.ref b] below meth c H locs (CC) (SS) (lw_Z below #[Value.ref b] s) (F0 m 1248 ls []) := by
  obtain ⟨hx, hb, hr, hml, hown, hts0, hX, hbl, hlocks, hgv⟩ := id C0
  have hA : ∀ q : Nat, s.heap.size ≤ q → (fun q : Nat => s.heap.size ≤ q) q := fun _ h => h
  have hbA : ¬ (fun q : Nat => s.heap.size ≤ q) b := Nat.not_le.mpr hbl
  refine lv_aload_n hx hb dL_law_1248 rfl (lv_at hl 1 rfl) ?_
  refine lv_aload_n hx hb dL_law_1249 rfl (lv_at hl 0 rfl) ?_
  refine lv_iload_n hx hb dL_law_1250 rfl (lv_at hl 3 rfl) ?_
  refine lv_iconst (v := 1) hx hb dL_law_1251 (by decide) ?_
  refine lv_iadd hx hb dL_law_1252 ?_
  refine lv_topi (fun x1 ex1 => ?_)
  have tx1 : x1.toInt = v3.toInt + 1 := by rw [ex1]; exact i_add (b := 1) (by show -2147483648 ≤ v3.toInt + 1; omega) (by show v3.toInt + 1 ≤ 2147483647; omega)
  refine va_sld hx hb hX hbl hbA hS (vp_in_iff.mpr (by omega)) dL_law_1253 ?_
  refine lv_topi (fun y2 ey2 => ?_)
  refine lv_aload_n hx hb dL_law_1254 rfl (lv_at hl 0 rfl) ?_
  refine lv_iload_n hx hb dL_law_1255 rfl (lv_at hl 3 rfl) ?_
  refine lv_iconst (v := 2) hx hb dL_law_1256 (by decide) ?_
  refine lv_iadd hx hb dL_law_1257 ?_
  refine lv_topi (fun x3 ex3 => ?_)
  have tx3 : x3.toInt = v3.toInt + 2 := by rw [ex3]; exact i_add (b := 2) (by show -2147483648 ≤ v3.toInt + 2; omega) (by show v3.toInt + 2 ≤ 2147483647; omega)
  refine va_sld hx hb hX hbl hbA hS (vp_in_iff.mpr (by omega)) dL_law_1258 ?_
  refine lv_topi (fun y4 ey4 => ?_)
  refine lv_aload_n hx hb dL_law_1259 rfl (lv_at hl 0 rfl) ?_
  refine lv_iload_n hx hb dL_law_1260 rfl (lv_at hl 3 rfl) ?_
  refine lv_iconst (v := 3) hx hb dL_law_1261 (by decide) ?_
  refine lv_iadd hx hb dL_law_1262 ?_
  refine lv_topi (fun x5 ex5 => ?_)
  have tx5 : x5.toInt = v3.toInt + 3 := by rw [ex5]; exact i_add (b := 3) (by show -2147483648 ≤ v3.toInt + 3; omega) (by show v3.toInt + 3 ≤ 2147483647; omega)
  refine va_sld hx hb hX hbl hbA hS (vp_in_iff.mpr (by omega)) dL_law_1263 ?_
  refine lv_topi (fun y6 ey6 => ?_)
  have htc := fun w h => hts0 w (hwL_X11_safest w h)
  refine wiV (C := RX11) (As := [.int y2, .int y4, .int y6]) (rest := []) ⟨hx, hb, hml, hown, htc⟩ (fun sz => t_X11_safest l D k u hu x m_x k_x y2 y4 y6 sz) (cwV 3 htc gS_X11_safest rfl rfl rfl (by decide +kernel) ⟨Nat.le_of_ble_eq_true rfl, Nat.le_of_ble_eq_true rfl⟩) hP hK hD hN hS hA (precv hK hP m_x (cF11 k_x) rfl) rfl hl.1 rfl (Nat.le_of_ble_eq_true rfl) dL_law_1264 ⟨by show CC + _ ≤ 600000; omega, by show SS + _ ≤ 7302250; omega⟩ (fun r7 u8 H locs hq hP hD hS => ?_)
  obtain ⟨hu, hxu8, hr7⟩ := hq
  have hR := REL.px m_x k_x m_mm k_mm hR hxu8
  have k_x : u8.2.1 x = 11 := (hxu8 x m_x).2.1.trans k_x
  have m_x : x ∈ u8.1 := (hxu8 x m_x).1
  have k_mm : u8.2.1 mm = 12 := (hxu8 mm m_mm).2.1.trans k_mm
  have m_mm : mm ∈ u8.1 := (hxu8 mm m_mm).1
  refine lv_pop hx hb dL_law_1267 rfl ?_
  refine lv_aload_n hx hb dL_law_1268 rfl (lv_at hl 2 rfl) ?_
  refine lv_aload_n hx hb dL_law_1269 rfl (lv_at hl 0 rfl) ?_
  refine lv_iload_n hx hb dL_law_1270 rfl (lv_at hl 3 rfl) ?_
  refine lv_iconst (v := 1) hx hb dL_law_1271 (by decide) ?_
  refine lv_iadd hx hb dL_law_1272 ?_
  refine lv_topi (fun x9 ex9 => ?_)
  have tx9 : x9.toInt = v3.toInt + 1 := by rw [ex9]; exact i_add (b := 1) (by show -2147483648 ≤ v3.toInt + 1; omega) (by show v3.toInt + 1 ≤ 2147483647; omega)
  refine va_sld hx hb hX hbl hbA hS (vp_in_iff.mpr (by omega)) dL_law_1273 ?_
  refine lv_topi (fun y10 ey10 => ?_)
  have qy10 : y10.toInt = y2.toInt := by rw [ey10, ey2, Int32.toInt_inj.mp (show x9.toInt = x1.toInt by omega)]
  refine lv_aload_n hx hb dL_law_1274 rfl (lv_at hl 0 rfl) ?_
  refine lv_iload_n hx hb dL_law_1275 rfl (lv_at hl 3 rfl) ?_
  refine lv_iconst (v := 2) hx hb dL_law_1276 (by decide) ?_
  refine lv_iadd hx hb dL_law_1277 ?_
  refine lv_topi (fun x11 ex11 => ?_)
  have tx11 : x11.toInt = v3.toInt + 2 := by rw [ex11]; exact i_add (b := 2) (by show -2147483648 ≤ v3.toInt + 2; omega) (by show v3.toInt + 2 ≤ 2147483647; omega)
  refine va_sld hx hb hX hbl hbA hS (vp_in_iff.mpr (by omega)) dL_law_1278 ?_
  refine lv_topi (fun y12 ey12 => ?_)
  have qy12 : y12.toInt = y4.toInt := by rw [ey12, ey4, Int32.toInt_inj.mp (show x11.toInt = x3.toInt by omega)]
  refine lv_aload_n hx hb dL_law_1279 rfl (lv_at hl 0 rfl) ?_
  refine lv_iload_n hx hb dL_law_1280 rfl (lv_at hl 3 rfl) ?_
  refine lv_iconst (v := 3) hx hb dL_law_1281 (by decide) ?_
  refine lv_iadd hx hb dL_law_1282 ?_
  refine lv_topi (fun x13 ex13 => ?_)
  have tx13 : x13.toInt = v3.toInt + 3 := by rw [ex13]; exact i_add (b := 3) (by show -2147483648 ≤ v3.toInt + 3; omega) (by show v3.toInt + 3 ≤ 2147483647; omega)
  refine va_sld hx hb hX hbl hbA hS (vp_in_iff.mpr (by omega)) dL_law_1283 ?_
  refine lv_topi (fun y14 ey14 => ?_)
  have qy14 : y14.toInt = y6.toInt := by rw [ey14, ey6, Int32.toInt_inj.mp (show x13.toInt = x5.toInt by omega)]
  have htc := fun w h => hts0 w (hwL_X12_safest w h)
  refine wiV (C := RX12) (As := [.int y10, .int y12, .int y14]) (rest := []) ⟨hx, hb, hml, hown, htc⟩ (fun sz => t_X12_safest l D k u8 hu mm m_mm k_mm y10 y12 y14 sz) (cwV 3 htc gS_X12_safest rfl rfl rfl (by decide +kernel) ⟨Nat.le_of_ble_eq_true rfl, Nat.le_of_ble_eq_true rfl⟩) hP hK hD hN hS hA (precv hK hP m_mm (cF12 k_mm) rfl) rfl hl.1 rfl (Nat.le_of_ble_eq_true rfl) dL_law_1284 ⟨by show CC + _ ≤ 600000; omega, by show SS + _ ≤ 7302250; omega⟩ (fun r15 u16 H locs hq hP hD hS => ?_)
  obtain ⟨hu, hxu16, hr15⟩ := hq
  have hR := REL.px m_x k_x m_mm k_mm hR hxu16
  have k_x : u16.2.1 x = 11 := (hxu16 x m_x).2.1.trans k_x
  have m_x : x ∈ u16.1 := (hxu16 x m_x).1
  have k_mm : u16.2.1 mm = 12 := (hxu16 mm m_mm).2.1.trans k_mm
  have m_mm : mm ∈ u16.1 := (hxu16 mm m_mm).1
  refine lv_pop hx hb dL_law_1287 rfl ?_
  refine lv_goto (tgt := 1769) hx hb dL_law_1288 (by decide) ?_
  refine W.widen (k := CC + 389) (n := SS + 3227) (by omega) (by omega) ?_
  exact kk u16 _ _ ls hu m_x k_x m_mm k_mm hR hP hD hS hl
set_option maxHeartbeats 4000000 in
set_option maxRecDepth 100000 in
theorem law_33 {p : Program} {l : Launch} {e : Env} {s : State} {m : MethodId} {below : List Frame} {meth : Method} {c : Code} {b L : Nat} {xs : Nat → Int32} {D : va_G} {k : Nat → ClassId} {tt : TT} (C0 : lw_At p s m meth c b L xs) (hL : L ≤ 3072) (hN : NW s) (hK : va_K D vwCl (TYS k) s) (hE : SX tt (fun q : Nat => s.heap.size ≤ q) s s.heap) {x mm : Nat} {v3 : Int32} {CC SS : Nat} (hv : 0 ≤ v3.toInt ∧ v3.toInt + 6 ≤ L) (hC : CC + 389 ≤ 600000) (hSl : SS + 3227 ≤ 7302250) (kk : ∀ (u : PSt) (H : Heap) (locs : List Loc) (ls : Array Slot), WT u → x ∈ u.1 → u.2.1 x = 11 → mm ∈ u.1 → u.2.1 mm = 12 → REL u x mm → va_P D vwCl (PW k u) H → va_D (fun q : Nat => s.heap.size ≤ q) (PW k u) → va_S (fun q : Nat => s.heap.size ≤ q) s.heap H locs → lv_has ls 4 [(0, .ref b), (1, .ref x), (2, .ref mm), (3, .int v3)] → W p l e room_1 s m #[Value.ref b] below meth c H locs (CC + 389) (SS + 3227) (lw_Z below #[Value.ref b] s) (F0 m 1769 ls [])) {u : PSt} {H : Heap} {locs : List Loc} {ls : Array Slot} (hu : WT u) (m_x : x ∈ u.1) (k_x : u.2.1 x = 11) (m_mm : mm ∈ u.1) (k_mm : u.2.1 mm = 12) (hR : REL u x mm) (hP : va_P D vwCl (PW k u) H) (hD : va_D (fun q : Nat => s.heap.size ≤ q) (PW k u)) (hS : va_S (fun q : Nat => s.heap.size ≤ q) s.heap H locs) (hl : lv_has ls 4 [(0, .ref b), (1, .ref x), (2, .ref mm), (3, .int v3)]) : W p l e room_1 s m #[Value.ref b] below meth c H locs (CC) (SS) (lw_Z below #[Value.ref b] s) (F0 m 1291 ls []) := by
  obtain ⟨hx, hb, hr, hml, hown, hts0, hX, hbl, hlocks, hgv⟩ := id C0
  have hA : ∀ q : Nat, s.heap.size ≤ q → (fun q : Nat => s.heap.size ≤ q) q := fun _ h => h
  have hbA : ¬ (fun q : Nat => s.heap.size ≤ q) b := Nat.not_le.mpr hbl
  refine lv_aload_n hx hb dL_law_1291 rfl (lv_at hl 1 rfl) ?_
  have htc := fun w h => hts0 w (hwL_X11_whole w h)
  refine rvi (C := RX11) (As := []) (rest := []) ⟨hx, hb, hml, hown, htc⟩ (t_X11_whole l D k u hu x m_x k_x ) (cwV 0 htc gS_X11_whole rfl rfl rfl (by decide +kernel) ⟨Nat.le_of_ble_eq_true rfl, Nat.le_of_ble_eq_true rfl⟩) hP hK (precv hK hP m_x (cF11 k_x) rfl) rfl hl.1 rfl (Nat.le_of_ble_eq_true rfl) dL_law_1292 ⟨by show CC ≤ 600000; omega, by show SS ≤ 7302250; omega⟩ (fun r1 hr1 => ?_)
  refine lv_pop hx hb dL_law_1295 rfl ?_
  refine lv_aload_n hx hb dL_law_1296 rfl (lv_at hl 2 rfl) ?_
  have htc := fun w h => hts0 w (hwL_X12_whole w h)
  refine rvi (C := RX12) (As := []) (rest := []) ⟨hx, hb, hml, hown, htc⟩ (t_X12_whole l D k u hu mm m_mm k_mm ) (cwV 0 htc gS_X12_whole rfl rfl rfl (by decide +kernel) ⟨Nat.le_of_ble_eq_true rfl, Nat.le_of_ble_eq_true rfl⟩) hP hK (precv hK hP m_mm (cF12 k_mm) rfl) rfl hl.1 rfl (Nat.le_of_ble_eq_true rfl) dL_law_1297 ⟨by show CC ≤ 600000; omega, by show SS ≤ 7302250; omega⟩ (fun r2 hr2 => ?_)
  refine lv_pop hx hb dL_law_1300 rfl ?_
  refine lv_goto (tgt := 1769) hx hb dL_law_1301 (by decide) ?_
  refine W.widen (k := CC + 389) (n := SS + 3227) (by omega) (by omega) ?_
  exact kk u _ _ ls hu m_x k_x m_mm k_mm hR hP hD hS hl
set_option maxHeartbeats 4000000 in
set_option maxRecDepth 100000 in
theorem law_34 {p : Program} {l : Launch} {e : Env} {s : State} {m : MethodId} {below : List Frame} {meth : Method} {c : Code} {b L : Nat} {xs : Nat → Int32} {D : va_G} {k : Nat → ClassId} {tt : TT} (C0 : lw_At p s m meth c b L xs) (hL : L ≤ 3072) (hN : NW s) (hK : va_K D vwCl (TYS k) s) (hE : SX tt (fun q : Nat => s.heap.size ≤ q) s s.heap) {x mm : Nat} {v3 : Int32} {CC SS : Nat} (hv : 0 ≤ v3.toInt ∧ v3.toInt + 6 ≤ L) (hC : CC + 389 ≤ 600000) (hSl : SS + 3227 ≤ 7302250) (kk : ∀ (u : PSt) (H : Heap) (locs : List Loc) (ls : Array Slot), WT u → x ∈ u.1 → u.2.1 x = 11 → mm ∈ u.1 → u.2.1 mm = 12 → REL u x mm → va_P D vwCl (PW k u) H → va_D (fun q : Nat => s.heap.size ≤ q) (PW k u) → va_S (fun q : Nat => s.heap.size ≤ q) s.heap H locs → lv_has ls 4 [(0, .ref b), (1, .ref x), (2, .ref mm), (3, .int v3)] → W p l e room_1 s m #[Value.ref b] below meth c H locs (CC + 389) (SS + 3227) (lw_Z below #[Value.ref b] s) (F0 m 1769 ls [])) {u : PSt} {H : Heap} {locs : List Loc} {ls : Array Slot} (hu : WT u) (m_x : x ∈ u.1) (k_x : u.2.1 x = 11) (m_mm : mm ∈ u.1) (k_mm : u.2.1 mm = 12) (hR : REL u x mm) (hP : va_P D vwCl (PW k u) H) (hD : va_D (fun q : Nat => s.heap.size ≤ q) (PW k u)) (hS : va_S (fun q : Nat => s.heap.size ≤ q) s.heap H locs) (hl : lv_has ls 4 [(0, .ref b), (1, .ref x), (2, .ref mm), (3, .int v3)]) : W p l e room_1 s m #[Value.ref b] below meth c H locs (CC) (SS) (lw_Z below #[Value.ref b] s) (F0 m 1304 ls []) := by
  obtain ⟨hx, hb, hr, hml, hown, hts0, hX, hbl, hlocks, hgv⟩ := id C0
  have hA : ∀ q : Nat, s.heap.size ≤ q → (fun q : Nat => s.heap.size ≤ q) q := fun _ h => h
  have hbA : ¬ (fun q : Nat => s.heap.size ≤ q) b := Nat.not_le.mpr hbl
  refine lv_aload_n hx hb dL_law_1304 rfl (lv_at hl 1 rfl) ?_
  refine lv_aload_n hx hb dL_law_1305 rfl (lv_at hl 0 rfl) ?_
  refine lv_iload_n hx hb dL_law_1306 rfl (lv_at hl 3 rfl) ?_
  refine lv_iconst (v := 1) hx hb dL_law_1307 (by decide) ?_
  refine lv_iadd hx hb dL_law_1308 ?_
  refine lv_topi (fun x1 ex1 => ?_)
  have tx1 : x1.toInt = v3.toInt + 1 := by rw [ex1]; exact i_add (b := 1) (by show -2147483648 ≤ v3.toInt + 1; omega) (by show v3.toInt + 1 ≤ 2147483647; omega)
  refine va_sld hx hb hX hbl hbA hS (vp_in_iff.mpr (by omega)) dL_law_1309 ?_
  refine lv_topi (fun y2 ey2 => ?_)
  have htc := fun w h => hts0 w (hwL_X11_staying w h)
  refine rvi (C := RX11) (As := [.int y2]) (rest := []) ⟨hx, hb, hml, hown, htc⟩ (t_X11_staying l D k u hu x m_x k_x y2) (cwV 1 htc gS_X11_staying rfl rfl rfl (by decide +kernel) ⟨Nat.le_of_ble_eq_true rfl, Nat.le_of_ble_eq_true rfl⟩) hP hK (precv hK hP m_x (cF11 k_x) rfl) rfl hl.1 rfl (Nat.le_of_ble_eq_true rfl) dL_law_1310 ⟨by show CC ≤ 600000; omega, by show SS ≤ 7302250; omega⟩ (fun r3 hr3 => ?_)
  refine lv_pop hx hb dL_law_1313 rfl ?_
  refine lv_aload_n hx hb dL_law_1314 rfl (lv_at hl 2 rfl) ?_
  refine lv_aload_n hx hb dL_law_1315 rfl (lv_at hl 0 rfl) ?_
  refine lv_iload_n hx hb dL_law_1316 rfl (lv_at hl 3 rfl) ?_
  refine lv_iconst (v := 1) hx hb dL_law_1317 (by decide) ?_
  refine lv_iadd hx hb dL_law_1318 ?_
  refine lv_topi (fun x4 ex4 => ?_)
  have tx4 : x4.toInt = v3.toInt + 1 := by rw [ex4]; exact i_add (b := 1) (by show -2147483648 ≤ v3.toInt + 1; omega) (by show v3.toInt + 1 ≤ 2147483647; omega)
  refine va_sld hx hb hX hbl hbA hS (vp_in_iff.mpr (by omega)) dL_law_1319 ?_
  refine lv_topi (fun y5 ey5 => ?_)
  have qy5 : y5.toInt = y2.toInt := by rw [ey5, ey2, Int32.toInt_inj.mp (show x4.toInt = x1.toInt by omega)]
  have htc := fun w h => hts0 w (hwL_X12_staying w h)
  refine wiV (C := RX12) (As := [.int y5]) (rest := []) ⟨hx, hb, hml, hown, htc⟩ (fun sz => t_X12_staying l D k u hu mm m_mm k_mm y5 sz) (cwV 1 htc gS_X12_staying rfl rfl rfl (by decide +kernel) ⟨Nat.le_of_ble_eq_true rfl, Nat.le_of_ble_eq_true rfl⟩) hP hK hD hN hS hA (precv hK hP m_mm (cF12 k_mm) rfl) rfl hl.1 rfl (Nat.le_of_ble_eq_true rfl) dL_law_1320 ⟨by show CC + _ ≤ 600000; omega, by show SS + _ ≤ 7302250; omega⟩ (fun r6 u7 H locs hq hP hD hS => ?_)
  obtain ⟨hu, hxu7, hr6⟩ := hq
  have hR := REL.px m_x k_x m_mm k_mm hR hxu7
  have k_x : u7.2.1 x = 11 := (hxu7 x m_x).2.1.trans k_x
  have m_x : x ∈ u7.1 := (hxu7 x m_x).1
  have k_mm : u7.2.1 mm = 12 := (hxu7 mm m_mm).2.1.trans k_mm
  have m_mm : mm ∈ u7.1 := (hxu7 mm m_mm).1
  refine lv_pop hx hb dL_law_1323 rfl ?_
  refine lv_goto (tgt := 1769) hx hb dL_law_1324 (by decide) ?_
  refine W.widen (k := CC + 389) (n := SS + 3227) (by omega) (by omega) ?_
  exact kk u7 _ _ ls hu m_x k_x m_mm k_mm hR hP hD hS hl
set_option maxHeartbeats 4000000 in
set_option maxRecDepth 100000 in
theorem law_35 {p : Program} {l : Launch} {e : Env} {s : State} {m : MethodId} {below : List Frame} {meth : Method} {c : Code} {b L : Nat} {xs : Nat → Int32} {D : va_G} {k : Nat → ClassId} {tt : TT} (C0 : lw_At p s m meth c b L xs) (hL : L ≤ 3072) (hN : NW s) (hK : va_K D vwCl (TYS k) s) (hE : SX tt (fun q : Nat => s.heap.size ≤ q) s s.heap) {x mm : Nat} {v3 : Int32} {CC SS : Nat} (hv : 0 ≤ v3.toInt ∧ v3.toInt + 6 ≤ L) (hC : CC + 389 ≤ 600000) (hSl : SS + 3227 ≤ 7302250) (kk : ∀ (u : PSt) (H : Heap) (locs : List Loc) (ls : Array Slot), WT u → x ∈ u.1 → u.2.1 x = 11 → mm ∈ u.1 → u.2.1 mm = 12 → REL u x mm → va_P D vwCl (PW k u) H → va_D (fun q : Nat => s.heap.size ≤ q) (PW k u) → va_S (fun q : Nat => s.heap.size ≤ q) s.heap H locs → lv_has ls 4 [(0, .ref b), (1, .ref x), (2, .ref mm), (3, .int v3)] → W p l e room_1 s m #[Value.ref b] below meth c H locs (CC + 389) (SS + 3227) (lw_Z below #[Value.ref b] s) (F0 m 1769 ls [])) {u : PSt} {H : Heap} {locs : List Loc} {ls : Array Slot} (hu : WT u) (m_x : x ∈ u.1) (k_x : u.2.1 x = 11) (m_mm : mm ∈ u.1) (k_mm : u.2.1 mm = 12) (hR : REL u x mm) (hP : va_P D vwCl (PW k u) H) (hD : va_D (fun q : Nat => s.heap.size ≤ q) (PW k u)) (hS : va_S (fun q : Nat => s.heap.size ≤ q) s.heap H locs) (hl : lv_has ls 4 [(0, .ref b), (1, .ref x), (2, .ref mm), (3, .int v3)]) : W p l e room_1 s m #[Value.ref b] below meth c H locs (CC) (SS) (lw_Z below #[Value.ref b] s) (F0 m 1327 ls []) := by
  obtain ⟨hx, hb, hr, hml, hown, hts0, hX, hbl, hlocks, hgv⟩ := id C0
  have hA : ∀ q : Nat, s.heap.size ≤ q → (fun q : Nat => s.heap.size ≤ q) q := fun _ h => h
  have hbA : ¬ (fun q : Nat => s.heap.size ≤ q) b := Nat.not_le.mpr hbl
  refine lv_aload_n hx hb dL_law_1327 rfl (lv_at hl 1 rfl) ?_
  refine lv_aload_n hx hb dL_law_1328 rfl (lv_at hl 0 rfl) ?_
  refine lv_iload_n hx hb dL_law_1329 rfl (lv_at hl 3 rfl) ?_
  refine lv_iconst (v := 1) hx hb dL_law_1330 (by decide) ?_
  refine lv_iadd hx hb dL_law_1331 ?_
  refine lv_topi (fun x1 ex1 => ?_)
  have tx1 : x1.toInt = v3.toInt + 1 := by rw [ex1]; exact i_add (b := 1) (by show -2147483648 ≤ v3.toInt + 1; omega) (by show v3.toInt + 1 ≤ 2147483647; omega)
  refine va_sld hx hb hX hbl hbA hS (vp_in_iff.mpr (by omega)) dL_law_1332 ?_
  refine lv_topi (fun y2 ey2 => ?_)
  refine lv_aload_n hx hb dL_law_1333 rfl (lv_at hl 0 rfl) ?_
  refine lv_iload_n hx hb dL_law_1334 rfl (lv_at hl 3 rfl) ?_
  refine lv_iconst (v := 2) hx hb dL_law_1335 (by decide) ?_
  refine lv_iadd hx hb dL_law_1336 ?_
  refine lv_topi (fun x3 ex3 => ?_)
  have tx3 : x3.toInt = v3.toInt + 2 := by rw [ex3]; exact i_add (b := 2) (by show -2147483648 ≤ v3.toInt + 2; omega) (by show v3.toInt + 2 ≤ 2147483647; omega)
  refine va_sld hx hb hX hbl hbA hS (vp_in_iff.mpr (by omega)) dL_law_1337 ?_
  refine lv_topi (fun y4 ey4 => ?_)
  have htc := fun w h => hts0 w (hwL_X11_asked w h)
  refine rvi (C := RX11) (As := [.int y2, .int y4]) (rest := []) ⟨hx, hb, hml, hown, htc⟩ (t_X11_asked l D k u hu x m_x k_x y2 y4) (cwV 2 htc gS_X11_asked rfl rfl rfl (by decide +kernel) ⟨Nat.le_of_ble_eq_true rfl, Nat.le_of_ble_eq_true rfl⟩) hP hK (precv hK hP m_x (cF11 k_x) rfl) rfl hl.1 rfl (Nat.le_of_ble_eq_true rfl) dL_law_1338 ⟨by show CC ≤ 600000; omega, by show SS ≤ 7302250; omega⟩ (fun r5 hr5 => ?_)
  refine lv_pop hx hb dL_law_1341 rfl ?_
  refine lv_aload_n hx hb dL_law_1342 rfl (lv_at hl 2 rfl) ?_
  refine lv_aload_n hx hb dL_law_1343 rfl (lv_at hl 0 rfl) ?_
  refine lv_iload_n hx hb dL_law_1344 rfl (lv_at hl 3 rfl) ?_
  refine lv_iconst (v := 1) hx hb dL_law_1345 (by decide) ?_
  refine lv_iadd hx hb dL_law_1346 ?_
  refine lv_topi (fun x6 ex6 => ?_)
  have tx6 : x6.toInt = v3.toInt + 1 := by rw [ex6]; exact i_add (b := 1) (by show -2147483648 ≤ v3.toInt + 1; omega) (by show v3.toInt + 1 ≤ 2147483647; omega)
  refine va_sld hx hb hX hbl hbA hS (vp_in_iff.mpr (by omega)) dL_law_1347 ?_
  refine lv_topi (fun y7 ey7 => ?_)
  have qy7 : y7.toInt = y2.toInt := by rw [ey7, ey2, Int32.toInt_inj.mp (show x6.toInt = x1.toInt by omega)]
  refine lv_aload_n hx hb dL_law_1348 rfl (lv_at hl 0 rfl) ?_
  refine lv_iload_n hx hb dL_law_1349 rfl (lv_at hl 3 rfl) ?_
  refine lv_iconst (v := 2) hx hb dL_law_1350 (by decide) ?_
  refine lv_iadd hx hb dL_law_1351 ?_
  refine lv_topi (fun x8 ex8 => ?_)
  have tx8 : x8.toInt = v3.toInt + 2 := by rw [ex8]; exact i_add (b := 2) (by show -2147483648 ≤ v3.toInt + 2; omega) (by show v3.toInt + 2 ≤ 2147483647; omega)
  refine va_sld hx hb hX hbl hbA hS (vp_in_iff.mpr (by omega)) dL_law_1352 ?_
  refine lv_topi (fun y9 ey9 => ?_)
  have qy9 : y9.toInt = y4.toInt := by rw [ey9, ey4, Int32.toInt_inj.mp (show x8.toInt = x3.toInt by omega)]
  have htc := fun w h => hts0 w (hwL_X12_asked w h)
  refine rvi (C := RX12) (As := [.int y7, .int y9]) (rest := []) ⟨hx, hb, hml, hown, htc⟩ (t_X12_asked l D k u hu mm m_mm k_mm y7 y9) (cwV 2 htc gS_X12_asked rfl rfl rfl (by decide +kernel) ⟨Nat.le_of_ble_eq_true rfl, Nat.le_of_ble_eq_true rfl⟩) hP hK (precv hK hP m_mm (cF12 k_mm) rfl) rfl hl.1 rfl (Nat.le_of_ble_eq_true rfl) dL_law_1353 ⟨by show CC ≤ 600000; omega, by show SS ≤ 7302250; omega⟩ (fun r10 hr10 => ?_)
  refine lv_pop hx hb dL_law_1356 rfl ?_
  refine lv_goto (tgt := 1769) hx hb dL_law_1357 (by decide) ?_
  refine W.widen (k := CC + 389) (n := SS + 3227) (by omega) (by omega) ?_
  exact kk u _ _ ls hu m_x k_x m_mm k_mm hR hP hD hS hl
