set_option maxHeartbeats 4000000 in
set_option maxRecDepth 100000 in
theorem law_24 {p : Program} {l : Launch} {e : Env} {s : State} {m : MethodId} {below : List Frame} {meth : Method} {c : Code} {b : Nat} {xs : Nat → Int32} {D : va_G} {k : Nat → ClassId} {a bb : Nat → Nat} (C0 : lw_At p s m meth c b 6 xs) (hN : NW s) (hK : va_K D vwCl (TYS k) s) {H : Heap} {locs : List Loc} (hP : va_P D vwCl (ALLW k a bb) H) (hD : va_D (fun q : Nat => s.heap.size ≤ q) (ALLW k a bb)) (hS : va_S (fun q : Nat => s.heap.size ≤ q) s.heap H locs) {ls : Array Slot} (hl : lv_has ls 4 [(0, .ref b), (1, .ref (a 0)), (2, .ref (bb 0)), (3, .int 0)]) : W p l e room_1 s m #[Value.ref b] below meth c H locs 66 21009 (lw_Z below #[Value.ref b] s) (F0 m 945 ls []) := by
  obtain ⟨hx, hb, hr, hml, hown, hts0, hX, hbl, hlocks, hgv⟩ := id C0
  have hA : ∀ q : Nat, s.heap.size ≤ q → (fun q : Nat => s.heap.size ≤ q) q := fun _ h => h
  have hbA : ¬ (fun q : Nat => s.heap.size ≤ q) b := Nat.not_le.mpr hbl
  refine lv_aload_n hx hb dL_law_945 rfl (lv_at hl 1 rfl) ?_
  have htc := fun w h => hts0 w (hwL_X11_show w h)
  refine pvi (C := RX11) (As := []) (rest := []) (wc := [e0 k a, e26 k a]) ⟨hx, hb, hml, hown, htc⟩ (c_X11_show l D k a ) (cwV 0 htc gS_X11_show rfl rfl rfl (by decide +kernel) ⟨Nat.le_of_ble_eq_true rfl, Nat.le_of_ble_eq_true rfl⟩) hP hK [0, 26] rfl 0 rfl rfl rfl rfl hl.1 rfl (Nat.le_of_ble_eq_true rfl) dL_law_946 ⟨Nat.le_of_ble_eq_true rfl, Nat.le_of_ble_eq_true rfl⟩ (fun r1 hr1 => ?_)
  obtain rfl := hr1
  refine lv_aload_n hx hb dL_law_949 rfl (lv_at hl 2 rfl) ?_
  have htc := fun w h => hts0 w (hwL_X12_show w h)
  refine pvi (C := RX12) (As := []) (rest := [.int 0]) (wc := [m0 k bb, m1 k bb]) ⟨hx, hb, hml, hown, htc⟩ (c_X12_show l D k bb ) (cwV 0 htc gS_X12_show rfl rfl rfl (by decide +kernel) ⟨Nat.le_of_ble_eq_true rfl, Nat.le_of_ble_eq_true rfl⟩) hP hK [48, 49] rfl 48 rfl rfl rfl rfl hl.1 rfl (Nat.le_of_ble_eq_true rfl) dL_law_950 ⟨Nat.le_of_ble_eq_true rfl, Nat.le_of_ble_eq_true rfl⟩ (fun r2 hr2 => ?_)
  obtain rfl := hr2
  refine lv_icmp_eq (tgt := 1770) hx hb dL_law_953 (by decide) (fun _ => ?_) (fun h => absurd (by decide) h)
  exact law_tail C0 (Nat.le_refl 6) hS (lv_sub hl [0, 1, 2, 3] rfl) (Nat.le_of_ble_eq_true rfl) (Nat.le_of_ble_eq_true rfl)
set_option maxHeartbeats 4000000 in
set_option maxRecDepth 100000 in
theorem law_25 {p : Program} {l : Launch} {e : Env} {s : State} {m : MethodId} {below : List Frame} {meth : Method} {c : Code} {b : Nat} {xs : Nat → Int32} {D : va_G} {k : Nat → ClassId} {a bb : Nat → Nat} (C0 : lw_At p s m meth c b 6 xs) (hN : NW s) (hK : va_K D vwCl (TYS k) s) {H : Heap} {locs : List Loc} (hP : va_P D vwCl (ALLW k a bb) H) (hD : va_D (fun q : Nat => s.heap.size ≤ q) (ALLW k a bb)) (hS : va_S (fun q : Nat => s.heap.size ≤ q) s.heap H locs) {ls : Array Slot} (hl : lv_has ls 4 [(0, .ref b), (1, .ref (a 0)), (2, .ref (bb 0)), (3, .int 0)]) : W p l e room_1 s m #[Value.ref b] below meth c H locs 66 21009 (lw_Z below #[Value.ref b] s) (F0 m 958 ls []) := by
  obtain ⟨hx, hb, hr, hml, hown, hts0, hX, hbl, hlocks, hgv⟩ := id C0
  have hA : ∀ q : Nat, s.heap.size ≤ q → (fun q : Nat => s.heap.size ≤ q) q := fun _ h => h
  have hbA : ¬ (fun q : Nat => s.heap.size ≤ q) b := Nat.not_le.mpr hbl
  refine lv_aload_n hx hb dL_law_958 rfl (lv_at hl 1 rfl) ?_
  refine lv_aload_n hx hb dL_law_959 rfl (lv_at hl 0 rfl) ?_
  refine lv_iload_n hx hb dL_law_960 rfl (lv_at hl 3 rfl) ?_
  refine lv_iconst (v := 1) hx hb dL_law_961 (by decide) ?_
  refine lv_iadd hx hb dL_law_962 ?_
  refine lv_topi (fun x1 ex1 => ?_)
  obtain rfl : x1 = 1 := ex1.trans (by decide)
  refine va_sld hx hb hX hbl hbA hS (vp_in_iff.mpr (by decide)) dL_law_963 ?_
  refine W.eq (g2 := F0 m 964 ls [.int (xs 1), .ref (a 0)]) rfl ?_
  refine lv_aload_n hx hb dL_law_964 rfl (lv_at hl 0 rfl) ?_
  refine lv_iload_n hx hb dL_law_965 rfl (lv_at hl 3 rfl) ?_
  refine lv_iconst (v := 2) hx hb dL_law_966 (by decide) ?_
  refine lv_iadd hx hb dL_law_967 ?_
  refine lv_topi (fun x2 ex2 => ?_)
  obtain rfl : x2 = 2 := ex2.trans (by decide)
  refine va_sld hx hb hX hbl hbA hS (vp_in_iff.mpr (by decide)) dL_law_968 ?_
  refine W.eq (g2 := F0 m 969 ls [.int (xs 2), .int (xs 1), .ref (a 0)]) rfl ?_
  refine lv_aload_n hx hb dL_law_969 rfl (lv_at hl 0 rfl) ?_
  refine lv_iload_n hx hb dL_law_970 rfl (lv_at hl 3 rfl) ?_
  refine lv_iconst (v := 3) hx hb dL_law_971 (by decide) ?_
  refine lv_iadd hx hb dL_law_972 ?_
  refine lv_topi (fun x3 ex3 => ?_)
  obtain rfl : x3 = 3 := ex3.trans (by decide)
  refine va_sld hx hb hX hbl hbA hS (vp_in_iff.mpr (by decide)) dL_law_973 ?_
  refine W.eq (g2 := F0 m 974 ls [.int (xs 3), .int (xs 2), .int (xs 1), .ref (a 0)]) rfl ?_
  have htc := fun w h => hts0 w (hwL_X11_reach w h)
  refine pvi (C := RX11) (As := [.int (xs 1), .int (xs 2), .int (xs 3)]) (rest := []) (wc := [e0 k a, e26 k a]) ⟨hx, hb, hml, hown, htc⟩ (c_X11_reach l D k a (xs 1) (xs 2) (xs 3)) (cwV 3 htc gS_X11_reach rfl rfl rfl (by decide +kernel) ⟨Nat.le_of_ble_eq_true rfl, Nat.le_of_ble_eq_true rfl⟩) hP hK [0, 26] rfl 0 rfl rfl rfl rfl hl.1 rfl (Nat.le_of_ble_eq_true rfl) dL_law_974 ⟨Nat.le_of_ble_eq_true rfl, Nat.le_of_ble_eq_true rfl⟩ (fun r4 hr4 => ?_)
  obtain rfl := hr4
  refine lv_aload_n hx hb dL_law_977 rfl (lv_at hl 2 rfl) ?_
  refine lv_aload_n hx hb dL_law_978 rfl (lv_at hl 0 rfl) ?_
  refine lv_iload_n hx hb dL_law_979 rfl (lv_at hl 3 rfl) ?_
  refine lv_iconst (v := 1) hx hb dL_law_980 (by decide) ?_
  refine lv_iadd hx hb dL_law_981 ?_
  refine lv_topi (fun x5 ex5 => ?_)
  obtain rfl : x5 = 1 := ex5.trans (by decide)
  refine va_sld hx hb hX hbl hbA hS (vp_in_iff.mpr (by decide)) dL_law_982 ?_
  refine W.eq (g2 := F0 m 983 ls [.int (xs 1), .ref (bb 0), .int (-2)]) rfl ?_
  refine lv_aload_n hx hb dL_law_983 rfl (lv_at hl 0 rfl) ?_
  refine lv_iload_n hx hb dL_law_984 rfl (lv_at hl 3 rfl) ?_
  refine lv_iconst (v := 2) hx hb dL_law_985 (by decide) ?_
  refine lv_iadd hx hb dL_law_986 ?_
  refine lv_topi (fun x6 ex6 => ?_)
  obtain rfl : x6 = 2 := ex6.trans (by decide)
  refine va_sld hx hb hX hbl hbA hS (vp_in_iff.mpr (by decide)) dL_law_987 ?_
  refine W.eq (g2 := F0 m 988 ls [.int (xs 2), .int (xs 1), .ref (bb 0), .int (-2)]) rfl ?_
  refine lv_aload_n hx hb dL_law_988 rfl (lv_at hl 0 rfl) ?_
  refine lv_iload_n hx hb dL_law_989 rfl (lv_at hl 3 rfl) ?_
  refine lv_iconst (v := 3) hx hb dL_law_990 (by decide) ?_
  refine lv_iadd hx hb dL_law_991 ?_
  refine lv_topi (fun x7 ex7 => ?_)
  obtain rfl : x7 = 3 := ex7.trans (by decide)
  refine va_sld hx hb hX hbl hbA hS (vp_in_iff.mpr (by decide)) dL_law_992 ?_
  refine W.eq (g2 := F0 m 993 ls [.int (xs 3), .int (xs 2), .int (xs 1), .ref (bb 0), .int (-2)]) rfl ?_
  have htc := fun w h => hts0 w (hwL_X12_reach w h)
  refine pvi (C := RX12) (As := [.int (xs 1), .int (xs 2), .int (xs 3)]) (rest := [.int (-2)]) (wc := [m0 k bb, m1 k bb]) ⟨hx, hb, hml, hown, htc⟩ (c_X12_reach l D k bb (xs 1) (xs 2) (xs 3)) (cwV 3 htc gS_X12_reach rfl rfl rfl (by decide +kernel) ⟨Nat.le_of_ble_eq_true rfl, Nat.le_of_ble_eq_true rfl⟩) hP hK [48, 49] rfl 48 rfl rfl rfl rfl hl.1 rfl (Nat.le_of_ble_eq_true rfl) dL_law_993 ⟨Nat.le_of_ble_eq_true rfl, Nat.le_of_ble_eq_true rfl⟩ (fun r8 hr8 => ?_)
  obtain rfl := hr8
  refine lv_icmp_eq (tgt := 1770) hx hb dL_law_996 (by decide) (fun _ => ?_) (fun h => absurd (by decide) h)
  exact law_tail C0 (Nat.le_refl 6) hS (lv_sub hl [0, 1, 2, 3] rfl) (Nat.le_of_ble_eq_true rfl) (Nat.le_of_ble_eq_true rfl)
set_option maxHeartbeats 4000000 in
set_option maxRecDepth 100000 in
theorem law_26 {p : Program} {l : Launch} {e : Env} {s : State} {m : MethodId} {below : List Frame} {meth : Method} {c : Code} {b : Nat} {xs : Nat → Int32} {D : va_G} {k : Nat → ClassId} {a bb : Nat → Nat} (C0 : lw_At p s m meth c b 6 xs) (hN : NW s) (hK : va_K D vwCl (TYS k) s) {H : Heap} {locs : List Loc} (hP : va_P D vwCl (ALLW k a bb) H) (hD : va_D (fun q : Nat => s.heap.size ≤ q) (ALLW k a bb)) (hS : va_S (fun q : Nat => s.heap.size ≤ q) s.heap H locs) {ls : Array Slot} (hl : lv_has ls 4 [(0, .ref b), (1, .ref (a 0)), (2, .ref (bb 0)), (3, .int 0)]) : W p l e room_1 s m #[Value.ref b] below meth c H locs 66 21009 (lw_Z below #[Value.ref b] s) (F0 m 1001 ls []) := by
  obtain ⟨hx, hb, hr, hml, hown, hts0, hX, hbl, hlocks, hgv⟩ := id C0
  have hA : ∀ q : Nat, s.heap.size ≤ q → (fun q : Nat => s.heap.size ≤ q) q := fun _ h => h
  have hbA : ¬ (fun q : Nat => s.heap.size ≤ q) b := Nat.not_le.mpr hbl
  refine lv_aload_n hx hb dL_law_1001 rfl (lv_at hl 1 rfl) ?_
  refine lv_aload_n hx hb dL_law_1002 rfl (lv_at hl 0 rfl) ?_
  refine lv_iload_n hx hb dL_law_1003 rfl (lv_at hl 3 rfl) ?_
  refine lv_iconst (v := 1) hx hb dL_law_1004 (by decide) ?_
  refine lv_iadd hx hb dL_law_1005 ?_
  refine lv_topi (fun x1 ex1 => ?_)
  obtain rfl : x1 = 1 := ex1.trans (by decide)
  refine va_sld hx hb hX hbl hbA hS (vp_in_iff.mpr (by decide)) dL_law_1006 ?_
  refine W.eq (g2 := F0 m 1007 ls [.int (xs 1), .ref (a 0)]) rfl ?_
  refine lv_aload_n hx hb dL_law_1007 rfl (lv_at hl 0 rfl) ?_
  refine lv_iload_n hx hb dL_law_1008 rfl (lv_at hl 3 rfl) ?_
  refine lv_iconst (v := 2) hx hb dL_law_1009 (by decide) ?_
  refine lv_iadd hx hb dL_law_1010 ?_
  refine lv_topi (fun x2 ex2 => ?_)
  obtain rfl : x2 = 2 := ex2.trans (by decide)
  refine va_sld hx hb hX hbl hbA hS (vp_in_iff.mpr (by decide)) dL_law_1011 ?_
  refine W.eq (g2 := F0 m 1012 ls [.int (xs 2), .int (xs 1), .ref (a 0)]) rfl ?_
  have htc := fun w h => hts0 w (hwL_X11_lights w h)
  refine pvi (C := RX11) (As := [.int (xs 1), .int (xs 2)]) (rest := []) (wc := [e0 k a, e26 k a]) ⟨hx, hb, hml, hown, htc⟩ (c_X11_lights l D k a (xs 1) (xs 2)) (cwV 2 htc gS_X11_lights rfl rfl rfl (by decide +kernel) ⟨Nat.le_of_ble_eq_true rfl, Nat.le_of_ble_eq_true rfl⟩) hP hK [0, 26] rfl 0 rfl rfl rfl rfl hl.1 rfl (Nat.le_of_ble_eq_true rfl) dL_law_1012 ⟨Nat.le_of_ble_eq_true rfl, Nat.le_of_ble_eq_true rfl⟩ (fun r3 hr3 => ?_)
  obtain rfl := hr3
  refine lv_aload_n hx hb dL_law_1015 rfl (lv_at hl 2 rfl) ?_
  refine lv_aload_n hx hb dL_law_1016 rfl (lv_at hl 0 rfl) ?_
  refine lv_iload_n hx hb dL_law_1017 rfl (lv_at hl 3 rfl) ?_
  refine lv_iconst (v := 1) hx hb dL_law_1018 (by decide) ?_
  refine lv_iadd hx hb dL_law_1019 ?_
  refine lv_topi (fun x4 ex4 => ?_)
  obtain rfl : x4 = 1 := ex4.trans (by decide)
  refine va_sld hx hb hX hbl hbA hS (vp_in_iff.mpr (by decide)) dL_law_1020 ?_
  refine W.eq (g2 := F0 m 1021 ls [.int (xs 1), .ref (bb 0), .int (-2)]) rfl ?_
  refine lv_aload_n hx hb dL_law_1021 rfl (lv_at hl 0 rfl) ?_
  refine lv_iload_n hx hb dL_law_1022 rfl (lv_at hl 3 rfl) ?_
  refine lv_iconst (v := 2) hx hb dL_law_1023 (by decide) ?_
  refine lv_iadd hx hb dL_law_1024 ?_
  refine lv_topi (fun x5 ex5 => ?_)
  obtain rfl : x5 = 2 := ex5.trans (by decide)
  refine va_sld hx hb hX hbl hbA hS (vp_in_iff.mpr (by decide)) dL_law_1025 ?_
  refine W.eq (g2 := F0 m 1026 ls [.int (xs 2), .int (xs 1), .ref (bb 0), .int (-2)]) rfl ?_
  have htc := fun w h => hts0 w (hwL_X12_lights w h)
  refine pvi (C := RX12) (As := [.int (xs 1), .int (xs 2)]) (rest := [.int (-2)]) (wc := [m0 k bb, m1 k bb]) ⟨hx, hb, hml, hown, htc⟩ (c_X12_lights l D k bb (xs 1) (xs 2)) (cwV 2 htc gS_X12_lights rfl rfl rfl (by decide +kernel) ⟨Nat.le_of_ble_eq_true rfl, Nat.le_of_ble_eq_true rfl⟩) hP hK [48, 49] rfl 48 rfl rfl rfl rfl hl.1 rfl (Nat.le_of_ble_eq_true rfl) dL_law_1026 ⟨Nat.le_of_ble_eq_true rfl, Nat.le_of_ble_eq_true rfl⟩ (fun r6 hr6 => ?_)
  obtain rfl := hr6
  refine lv_icmp_eq (tgt := 1770) hx hb dL_law_1029 (by decide) (fun _ => ?_) (fun h => absurd (by decide) h)
  exact law_tail C0 (Nat.le_refl 6) hS (lv_sub hl [0, 1, 2, 3] rfl) (Nat.le_of_ble_eq_true rfl) (Nat.le_of_ble_eq_true rfl)
set_option maxHeartbeats 4000000 in
set_option maxRecDepth 100000 in
theorem law_27 {p : Program} {l : Launch} {e : Env} {s : State} {m : MethodId} {below : List Frame} {meth : Method} {c : Code} {b : Nat} {xs : Nat → Int32} {D : va_G} {k : Nat → ClassId} {a bb : Nat → Nat} (C0 : lw_At p s m meth c b 6 xs) (hN : NW s) (hK : va_K D vwCl (TYS k) s) {H : Heap} {locs : List Loc} (hP : va_P D vwCl (ALLW k a bb) H) (hD : va_D (fun q : Nat => s.heap.size ≤ q) (ALLW k a bb)) (hS : va_S (fun q : Nat => s.heap.size ≤ q) s.heap H locs) {ls : Array Slot} (hl : lv_has ls 4 [(0, .ref b), (1, .ref (a 0)), (2, .ref (bb 0)), (3, .int 0)]) : W p l e room_1 s m #[Value.ref b] below meth c H locs 66 21009 (lw_Z below #[Value.ref b] s) (F0 m 1034 ls []) := by
  obtain ⟨hx, hb, hr, hml, hown, hts0, hX, hbl, hlocks, hgv⟩ := id C0
  have hA : ∀ q : Nat, s.heap.size ≤ q → (fun q : Nat => s.heap.size ≤ q) q := fun _ h => h
  have hbA : ¬ (fun q : Nat => s.heap.size ≤ q) b := Nat.not_le.mpr hbl
  refine lv_aload_n hx hb dL_law_1034 rfl (lv_at hl 1 rfl) ?_
  refine lv_aload_n hx hb dL_law_1035 rfl (lv_at hl 0 rfl) ?_
  refine lv_iload_n hx hb dL_law_1036 rfl (lv_at hl 3 rfl) ?_
  refine lv_iconst (v := 1) hx hb dL_law_1037 (by decide) ?_
  refine lv_iadd hx hb dL_law_1038 ?_
  refine lv_topi (fun x1 ex1 => ?_)
  obtain rfl : x1 = 1 := ex1.trans (by decide)
  refine va_sld hx hb hX hbl hbA hS (vp_in_iff.mpr (by decide)) dL_law_1039 ?_
  refine W.eq (g2 := F0 m 1040 ls [.int (xs 1), .ref (a 0)]) rfl ?_
  refine lv_aload_n hx hb dL_law_1040 rfl (lv_at hl 0 rfl) ?_
  refine lv_iload_n hx hb dL_law_1041 rfl (lv_at hl 3 rfl) ?_
  refine lv_iconst (v := 2) hx hb dL_law_1042 (by decide) ?_
  refine lv_iadd hx hb dL_law_1043 ?_
  refine lv_topi (fun x2 ex2 => ?_)
  obtain rfl : x2 = 2 := ex2.trans (by decide)
  refine va_sld hx hb hX hbl hbA hS (vp_in_iff.mpr (by decide)) dL_law_1044 ?_
  refine W.eq (g2 := F0 m 1045 ls [.int (xs 2), .int (xs 1), .ref (a 0)]) rfl ?_
  have htc := fun w h => hts0 w (hwL_X11_taken w h)
  refine pvi (C := RX11) (As := [.int (xs 1), .int (xs 2)]) (rest := []) (wc := [e0 k a, e26 k a]) ⟨hx, hb, hml, hown, htc⟩ (c_X11_taken l D k a (xs 1) (xs 2)) (cwV 2 htc gS_X11_taken rfl rfl rfl (by decide +kernel) ⟨Nat.le_of_ble_eq_true rfl, Nat.le_of_ble_eq_true rfl⟩) hP hK [0, 26] rfl 0 rfl rfl rfl rfl hl.1 rfl (Nat.le_of_ble_eq_true rfl) dL_law_1045 ⟨Nat.le_of_ble_eq_true rfl, Nat.le_of_ble_eq_true rfl⟩ (fun r3 hr3 => ?_)
  obtain rfl := hr3
  refine lv_aload_n hx hb dL_law_1048 rfl (lv_at hl 2 rfl) ?_
  refine lv_aload_n hx hb dL_law_1049 rfl (lv_at hl 0 rfl) ?_
  refine lv_iload_n hx hb dL_law_1050 rfl (lv_at hl 3 rfl) ?_
  refine lv_iconst (v := 1) hx hb dL_law_1051 (by decide) ?_
  refine lv_iadd hx hb dL_law_1052 ?_
  refine lv_topi (fun x4 ex4 => ?_)
  obtain rfl : x4 = 1 := ex4.trans (by decide)
  refine va_sld hx hb hX hbl hbA hS (vp_in_iff.mpr (by decide)) dL_law_1053 ?_
  refine W.eq (g2 := F0 m 1054 ls [.int (xs 1), .ref (bb 0), .int (-2)]) rfl ?_
  refine lv_aload_n hx hb dL_law_1054 rfl (lv_at hl 0 rfl) ?_
  refine lv_iload_n hx hb dL_law_1055 rfl (lv_at hl 3 rfl) ?_
  refine lv_iconst (v := 2) hx hb dL_law_1056 (by decide) ?_
  refine lv_iadd hx hb dL_law_1057 ?_
  refine lv_topi (fun x5 ex5 => ?_)
  obtain rfl : x5 = 2 := ex5.trans (by decide)
  refine va_sld hx hb hX hbl hbA hS (vp_in_iff.mpr (by decide)) dL_law_1058 ?_
  refine W.eq (g2 := F0 m 1059 ls [.int (xs 2), .int (xs 1), .ref (bb 0), .int (-2)]) rfl ?_
  have htc := fun w h => hts0 w (hwL_X12_taken_ w h)
  refine pvi (C := RX12) (As := [.int (xs 1), .int (xs 2)]) (rest := [.int (-2)]) (wc := [m0 k bb, m1 k bb]) ⟨hx, hb, hml, hown, htc⟩ (c_X12_taken_ l D k bb (xs 1) (xs 2)) (cwV 2 htc gS_X12_taken_ rfl rfl rfl (by decide +kernel) ⟨Nat.le_of_ble_eq_true rfl, Nat.le_of_ble_eq_true rfl⟩) hP hK [48, 49] rfl 48 rfl rfl rfl rfl hl.1 rfl (Nat.le_of_ble_eq_true rfl) dL_law_1059 ⟨Nat.le_of_ble_eq_true rfl, Nat.le_of_ble_eq_true rfl⟩ (fun r6 hr6 => ?_)
  obtain rfl := hr6
  refine lv_icmp_eq (tgt := 1770) hx hb dL_law_1062 (by decide) (fun _ => ?_) (fun h => absurd (by decide) h)
  exact law_tail C0 (Nat.le_refl 6) hS (lv_sub hl [0, 1, 2, 3] rfl) (Nat.le_of_ble_eq_true rfl) (Nat.le_of_ble_eq_true rfl)
set_option maxHeartbeats 4000000 in
set_option maxRecDepth 100000 in
theorem law_28 {p : Program} {l : Launch} {e : Env} {s : State} {m : MethodId} {below : List Frame} {meth : Method} {c : Code} {b : Nat} {xs : Nat → Int32} {D : va_G} {k : Nat → ClassId} {a bb : Nat → Nat} (C0 : lw_At p s m meth c b 6 xs) (hN : NW s) (hK : va_K D vwCl (TYS k) s) {H : Heap} {locs : List Loc} (hP : va_P D vwCl (ALLW k a bb) H) (hD : va_D (fun q : Nat => s.heap.size ≤ q) (ALLW k a bb)) (hS : va_S (fun q : Nat => s.heap.size ≤ q) s.heap H locs) {ls : Array Slot} (hl : lv_has ls 4 [(0, .ref b), (1, .ref (a 0)), (2, .ref (bb 0)), (3, .int 0)]) : W p l e room_1 s m #[Value.ref b] below meth c H locs 66 21009 (lw_Z below #[Value.ref b] s) (F0 m 1067 ls []) := by
  obtain ⟨hx, hb, hr, hml, hown, hts0, hX, hbl, hlocks, hgv⟩ := id C0
  have hA : ∀ q : Nat, s.heap.size ≤ q → (fun q : Nat => s.heap.size ≤ q) q := fun _ h => h
  have hbA : ¬ (fun q : Nat => s.heap.size ≤ q) b := Nat.not_le.mpr hbl
  refine lv_aload_n hx hb dL_law_1067 rfl (lv_at hl 1 rfl) ?_
  refine lv_aload_n hx hb dL_law_1068 rfl (lv_at hl 0 rfl) ?_
  refine lv_iload_n hx hb dL_law_1069 rfl (lv_at hl 3 rfl) ?_
  refine lv_iconst (v := 1) hx hb dL_law_1070 (by decide) ?_
  refine lv_iadd hx hb dL_law_1071 ?_
  refine lv_topi (fun x1 ex1 => ?_)
  obtain rfl : x1 = 1 := ex1.trans (by decide)
  refine va_sld hx hb hX hbl hbA hS (vp_in_iff.mpr (by decide)) dL_law_1072 ?_
  refine W.eq (g2 := F0 m 1073 ls [.int (xs 1), .ref (a 0)]) rfl ?_
  refine lv_aload_n hx hb dL_law_1073 rfl (lv_at hl 0 rfl) ?_
  refine lv_iload_n hx hb dL_law_1074 rfl (lv_at hl 3 rfl) ?_
  refine lv_iconst (v := 2) hx hb dL_law_1075 (by decide) ?_
  refine lv_iadd hx hb dL_law_1076 ?_
  refine lv_topi (fun x2 ex2 => ?_)
  obtain rfl : x2 = 2 := ex2.trans (by decide)
  refine va_sld hx hb hX hbl hbA hS (vp_in_iff.mpr (by decide)) dL_law_1077 ?_
  refine W.eq (g2 := F0 m 1078 ls [.int (xs 2), .int (xs 1), .ref (a 0)]) rfl ?_
  have htc := fun w h => hts0 w (hwL_X11_lives w h)
  refine pvi (C := RX11) (As := [.int (xs 1), .int (xs 2)]) (rest := []) (wc := [e0 k a, e26 k a]) ⟨hx, hb, hml, hown, htc⟩ (c_X11_lives l D k a (xs 1) (xs 2)) (cwV 2 htc gS_X11_lives rfl rfl rfl (by decide +kernel) ⟨Nat.le_of_ble_eq_true rfl, Nat.le_of_ble_eq_true rfl⟩) hP hK [0, 26] rfl 0 rfl rfl rfl rfl hl.1 rfl (Nat.le_of_ble_eq_true rfl) dL_law_1078 ⟨Nat.le_of_ble_eq_true rfl, Nat.le_of_ble_eq_true rfl⟩ (fun r3 hr3 => ?_)
  obtain rfl := hr3
  refine lv_aload_n hx hb dL_law_1081 rfl (lv_at hl 2 rfl) ?_
  refine lv_aload_n hx hb dL_law_1082 rfl (lv_at hl 0 rfl) ?_
  refine lv_iload_n hx hb dL_law_1083 rfl (lv_at hl 3 rfl) ?_
  refine lv_iconst (v := 1) hx hb dL_law_1084 (by decide) ?_
  refine lv_iadd hx hb dL_law_1085 ?_
  refine lv_topi (fun x4 ex4 => ?_)
  obtain rfl : x4 = 1 := ex4.trans (by decide)
  refine va_sld hx hb hX hbl hbA hS (vp_in_iff.mpr (by decide)) dL_law_1086 ?_
  refine W.eq (g2 := F0 m 1087 ls [.int (xs 1), .ref (bb 0), .int (-2)]) rfl ?_
  refine lv_aload_n hx hb dL_law_1087 rfl (lv_at hl 0 rfl) ?_
  refine lv_iload_n hx hb dL_law_1088 rfl (lv_at hl 3 rfl) ?_
  refine lv_iconst (v := 2) hx hb dL_law_1089 (by decide) ?_
  refine lv_iadd hx hb dL_law_1090 ?_
  refine lv_topi (fun x5 ex5 => ?_)
  obtain rfl : x5 = 2 := ex5.trans (by decide)
  refine va_sld hx hb hX hbl hbA hS (vp_in_iff.mpr (by decide)) dL_law_1091 ?_
  refine W.eq (g2 := F0 m 1092 ls [.int (xs 2), .int (xs 1), .ref (bb 0), .int (-2)]) rfl ?_
  have htc := fun w h => hts0 w (hwL_X12_lives w h)
  refine pvi (C := RX12) (As := [.int (xs 1), .int (xs 2)]) (rest := [.int (-2)]) (wc := [m0 k bb, m1 k bb]) ⟨hx, hb, hml, hown, htc⟩ (c_X12_lives l D k bb (xs 1) (xs 2)) (cwV 2 htc gS_X12_lives rfl rfl rfl (by decide +kernel) ⟨Nat.le_of_ble_eq_true rfl, Nat.le_of_ble_eq_true rfl⟩) hP hK [48, 49] rfl 48 rfl rfl rfl rfl hl.1 rfl (Nat.le_of_ble_eq_true rfl) dL_law_1092 ⟨Nat.le_of_ble_eq_true rfl, Nat.le_of_ble_eq_true rfl⟩ (fun r6 hr6 => ?_)
  obtain rfl := hr6
  refine lv_icmp_eq (tgt := 1770) hx hb dL_law_1095 (by decide) (fun _ => ?_) (fun h => absurd (by decide) h)
  exact law_tail C0 (Nat.le_refl 6) hS (lv_sub hl [0, 1, 2, 3] rfl) (Nat.le_of_ble_eq_true rfl) (Nat.le_of_ble_eq_true rfl)
set_option maxHeartbeats 4000000 in
set_option maxRecDepth 100000 in
theorem law_29 {p : Program} {l : Launch} {e : Env} {s : State} {m : MethodId} {below : List Frame} {meth : Method} {c : Code} {b : Nat} {xs : Nat → Int32} {D : va_G} {k : Nat → ClassId} {a bb : Nat → Nat} (C0 : lw_At p s m meth c b 6 xs) (hN : NW s) (hK : va_K D vwCl (TYS k) s) {H : Heap} {locs : List Loc} (hP : va_P D vwCl (ALLW k a bb) H) (hD : va_D (fun q : Nat => s.heap.size ≤ q) (ALLW k a bb)) (hS : va_S (fun q : Nat => s.heap.size ≤ q) s.heap H locs) {ls : Array Slot} (hl : lv_has ls 4 [(0, .ref b), (1, .ref (a 0)), (2, .ref (bb 0)), (3, .int 0)]) : W p l e room_1 s m #[Value.ref b] below meth c H locs 66 21009 (lw_Z below #[Value.ref b] s) (F0 m 1100 ls []) := by
  obtain ⟨hx, hb, hr, hml, hown, hts0, hX, hbl, hlocks, hgv⟩ := id C0
  have hA : ∀ q : Nat, s.heap.size ≤ q → (fun q : Nat => s.heap.size ≤ q) q := fun _ h => h
  have hbA : ¬ (fun q : Nat => s.heap.size ≤ q) b := Nat.not_le.mpr hbl
  refine lv_aload_n hx hb dL_law_1100 rfl (lv_at hl 1 rfl) ?_
  refine lv_aload_n hx hb dL_law_1101 rfl (lv_at hl 0 rfl) ?_
  refine lv_iload_n hx hb dL_law_1102 rfl (lv_at hl 3 rfl) ?_
  refine lv_iconst (v := 1) hx hb dL_law_1103 (by decide) ?_
  refine lv_iadd hx hb dL_law_1104 ?_
  refine lv_topi (fun x1 ex1 => ?_)
  obtain rfl : x1 = 1 := ex1.trans (by decide)
  refine va_sld hx hb hX hbl hbA hS (vp_in_iff.mpr (by decide)) dL_law_1105 ?_
  refine W.eq (g2 := F0 m 1106 ls [.int (xs 1), .ref (a 0)]) rfl ?_
  refine lv_aload_n hx hb dL_law_1106 rfl (lv_at hl 0 rfl) ?_
  refine lv_iload_n hx hb dL_law_1107 rfl (lv_at hl 3 rfl) ?_
  refine lv_iconst (v := 2) hx hb dL_law_1108 (by decide) ?_
  refine lv_iadd hx hb dL_law_1109 ?_
  refine lv_topi (fun x2 ex2 => ?_)
  obtain rfl : x2 = 2 := ex2.trans (by decide)
  refine va_sld hx hb hX hbl hbA hS (vp_in_iff.mpr (by decide)) dL_law_1110 ?_
  refine W.eq (g2 := F0 m 1111 ls [.int (xs 2), .int (xs 1), .ref (a 0)]) rfl ?_
  refine lv_aload_n hx hb dL_law_1111 rfl (lv_at hl 0 rfl) ?_
  refine lv_iload_n hx hb dL_law_1112 rfl (lv_at hl 3 rfl) ?_
  refine lv_iconst (v := 3) hx hb dL_law_1113 (by decide) ?_
  refine lv_iadd hx hb dL_law_1114 ?_
  refine lv_topi (fun x3 ex3 => ?_)
  obtain rfl : x3 = 3 := ex3.trans (by decide)
  refine va_sld hx hb hX hbl hbA hS (vp_in_iff.mpr (by decide)) dL_law_1115 ?_
  refine W.eq (g2 := F0 m 1116 ls [.int (xs 3), .int (xs 2), .int (xs 1), .ref (a 0)]) rfl ?_
  have htc := fun w h => hts0 w (hwL_X11_when w h)
  refine pvi (C := RX11) (As := [.int (xs 1), .int (xs 2), .int (xs 3)]) (rest := []) (wc := [e0 k a, e26 k a]) ⟨hx, hb, hml, hown, htc⟩ (c_X11_when l D k a (xs 1) (xs 2) (xs 3)) (cwV 3 htc gS_X11_when rfl rfl rfl (by decide +kernel) ⟨Nat.le_of_ble_eq_true rfl, Nat.le_of_ble_eq_true rfl⟩) hP hK [0, 26] rfl 0 rfl rfl rfl rfl hl.1 rfl (Nat.le_of_ble_eq_true rfl) dL_law_1116 ⟨Nat.le_of_ble_eq_true rfl, Nat.le_of_ble_eq_true rfl⟩ (fun r4 hr4 => ?_)
  obtain rfl := hr4
  refine lv_aload_n hx hb dL_law_1119 rfl (lv_at hl 2 rfl) ?_
  refine lv_aload_n hx hb dL_law_1120 rfl (lv_at hl 0 rfl) ?_
  refine lv_iload_n hx hb dL_law_1121 rfl (lv_at hl 3 rfl) ?_
  refine lv_iconst (v := 1) hx hb dL_law_1122 (by decide) ?_
  refine lv_iadd hx hb dL_law_1123 ?_
  refine lv_topi (fun x5 ex5 => ?_)
  obtain rfl : x5 = 1 := ex5.trans (by decide)
  refine va_sld hx hb hX hbl hbA hS (vp_in_iff.mpr (by decide)) dL_law_1124 ?_
  refine W.eq (g2 := F0 m 1125 ls [.int (xs 1), .ref (bb 0), .int (-2)]) rfl ?_
  refine lv_aload_n hx hb dL_law_1125 rfl (lv_at hl 0 rfl) ?_
  refine lv_iload_n hx hb dL_law_1126 rfl (lv_at hl 3 rfl) ?_
  refine lv_iconst (v := 2) hx hb dL_law_1127 (by decide) ?_
  refine lv_iadd hx hb dL_law_1128 ?_
  refine lv_topi (fun x6 ex6 => ?_)
  obtain rfl : x6 = 2 := ex6.trans (by decide)
  refine va_sld hx hb hX hbl hbA hS (vp_in_iff.mpr (by decide)) dL_law_1129 ?_
  refine W.eq (g2 := F0 m 1130 ls [.int (xs 2), .int (xs 1), .ref (bb 0), .int (-2)]) rfl ?_
  refine lv_aload_n hx hb dL_law_1130 rfl (lv_at hl 0 rfl) ?_
  refine lv_iload_n hx hb dL_law_1131 rfl (lv_at hl 3 rfl) ?_
  refine lv_iconst (v := 3) hx hb dL_law_1132 (by decide) ?_
  refine lv_iadd hx hb dL_law_1133 ?_
  refine lv_topi (fun x7 ex7 => ?_)
  obtain rfl : x7 = 3 := ex7.trans (by decide)
  refine va_sld hx hb hX hbl hbA hS (vp_in_iff.mpr (by decide)) dL_law_1134 ?_
  refine W.eq (g2 := F0 m 1135 ls [.int (xs 3), .int (xs 2), .int (xs 1), .ref (bb 0), .int (-2)]) rfl ?_
  have htc := fun w h => hts0 w (hwL_X12_when w h)
  refine pvi (C := RX12) (As := [.int (xs 1), .int (xs 2), .int (xs 3)]) (rest := [.int (-2)]) (wc := [m0 k bb, m1 k bb]) ⟨hx, hb, hml, hown, htc⟩ (c_X12_when l D k bb (xs 1) (xs 2) (xs 3)) (cwV 3 htc gS_X12_when rfl rfl rfl (by decide +kernel) ⟨Nat.le_of_ble_eq_true rfl, Nat.le_of_ble_eq_true rfl⟩) hP hK [48, 49] rfl 48 rfl rfl rfl rfl hl.1 rfl (Nat.le_of_ble_eq_true rfl) dL_law_1135 ⟨Nat.le_of_ble_eq_true rfl, Nat.le_of_ble_eq_true rfl⟩ (fun r8 hr8 => ?_)
  obtain rfl := hr8
  refine lv_icmp_eq (tgt := 1770) hx hb dL_law_1138 (by decide) (fun _ => ?_) (fun h => absurd (by decide) h)
  exact law_tail C0 (Nat.le_refl 6) hS (lv_sub hl [0, 1, 2, 3] rfl) (Nat.le_of_ble_eq_true rfl) (Nat.le_of_ble_eq_true rfl)
set_option maxHeartbeats 4000000 in
set_option maxRecDepth 100000 in
theorem law_30 {p : Program} {l : Launch} {e : Env} {s : State} {m : MethodId} {below : List Frame} {meth : Method} {c : Code} {b : Nat} {xs : Nat → Int32} {D : va_G} {k : Nat → ClassId} {a bb : Nat → Nat} (C0 : lw_At p s m meth c b 6 xs) (hN : NW s) (hK : va_K D vwCl (TYS k) s) {H : Heap} {locs : List Loc} (hP : va_P D vwCl (ALLW k a bb) H) (hD : va_D (fun q : Nat => s.heap.size ≤ q) (ALLW k a bb)) (hS : va_S (fun q : Nat => s.heap.size ≤ q) s.heap H locs) {ls : Array Slot} (hl : lv_has ls 4 [(0, .ref b), (1, .ref (a 0)), (2, .ref (bb 0)), (3, .int 0)]) : W p l e room_1 s m #[Value.ref b] below meth c H locs 66 21009 (lw_Z below #[Value.ref b] s) (F0 m 1143 ls []) := by
  obtain ⟨hx, hb, hr, hml, hown, hts0, hX, hbl, hlocks, hgv⟩ := id C0
  have hA : ∀ q : Nat, s.heap.size ≤ q → (fun q : Nat => s.heap.size ≤ q) q := fun _ h => h
  have hbA : ¬ (fun q : Nat => s.heap.size ≤ q) b := Nat.not_le.mpr hbl
  refine lv_aload_n hx hb dL_law_1143 rfl (lv_at hl 1 rfl) ?_
  refine lv_aload_n hx hb dL_law_1144 rfl (lv_at hl 0 rfl) ?_
  refine lv_iload_n hx hb dL_law_1145 rfl (lv_at hl 3 rfl) ?_
  refine lv_iconst (v := 1) hx hb dL_law_1146 (by decide) ?_
  refine lv_iadd hx hb dL_law_1147 ?_
  refine lv_topi (fun x1 ex1 => ?_)
  obtain rfl : x1 = 1 := ex1.trans (by decide)
  refine va_sld hx hb hX hbl hbA hS (vp_in_iff.mpr (by decide)) dL_law_1148 ?_
  refine W.eq (g2 := F0 m 1149 ls [.int (xs 1), .ref (a 0)]) rfl ?_
  refine lv_aload_n hx hb dL_law_1149 rfl (lv_at hl 0 rfl) ?_
  refine lv_iload_n hx hb dL_law_1150 rfl (lv_at hl 3 rfl) ?_
  refine lv_iconst (v := 2) hx hb dL_law_1151 (by decide) ?_
  refine lv_iadd hx hb dL_law_1152 ?_
  refine lv_topi (fun x2 ex2 => ?_)
  obtain rfl : x2 = 2 := ex2.trans (by decide)
  refine va_sld hx hb hX hbl hbA hS (vp_in_iff.mpr (by decide)) dL_law_1153 ?_
  refine W.eq (g2 := F0 m 1154 ls [.int (xs 2), .int (xs 1), .ref (a 0)]) rfl ?_
  refine lv_aload_n hx hb dL_law_1154 rfl (lv_at hl 0 rfl) ?_
  refine lv_iload_n hx hb dL_law_1155 rfl (lv_at hl 3 rfl) ?_
  refine lv_iconst (v := 3) hx hb dL_law_1156 (by decide) ?_
  refine lv_iadd hx hb dL_law_1157 ?_
  refine lv_topi (fun x3 ex3 => ?_)
  obtain rfl : x3 = 3 := ex3.trans (by decide)
  refine va_sld hx hb hX hbl hbA hS (vp_in_iff.mpr (by decide)) dL_law_1158 ?_
  refine W.eq (g2 := F0 m 1159 ls [.int (xs 3), .int (xs 2), .int (xs 1), .ref (a 0)]) rfl ?_
  refine lv_aload_n hx hb dL_law_1159 rfl (lv_at hl 0 rfl) ?_
  refine lv_iload_n hx hb dL_law_1160 rfl (lv_at hl 3 rfl) ?_
  refine lv_iconst (v := 4) hx hb dL_law_1161 (by decide) ?_
  refine lv_iadd hx hb dL_law_1162 ?_
  refine lv_topi (fun x4 ex4 => ?_)
  obtain rfl : x4 = 4 := ex4.trans (by decide)
  refine va_sld hx hb hX hbl hbA hS (vp_in_iff.mpr (by decide)) dL_law_1163 ?_
  refine W.eq (g2 := F0 m 1164 ls [.int (xs 4), .int (xs 3), .int (xs 2), .int (xs 1), .ref (a 0)]) rfl ?_
  refine lv_aload_n hx hb dL_law_1164 rfl (lv_at hl 0 rfl) ?_
  refine lv_iload_n hx hb dL_law_1165 rfl (lv_at hl 3 rfl) ?_
  refine lv_iconst (v := 5) hx hb dL_law_1166 (by decide) ?_
  refine lv_iadd hx hb dL_law_1167 ?_
  refine lv_topi (fun x5 ex5 => ?_)
  obtain rfl : x5 = 5 := ex5.trans (by decide)
  refine va_sld hx hb hX hbl hbA hS (vp_in_iff.mpr (by decide)) dL_law_1168 ?_
  refine W.eq (g2 := F0 m 1169 ls [.int (xs 5), .int (xs 4), .int (xs 3), .int (xs 2), .int (xs 1), .ref (a 0)]) rfl ?_
  have htc := fun w h => hts0 w (hwL_X11_moved w h)
  refine pvi (C := RX11) (As := [.int (xs 1), .int (xs 2), .int (xs 3), .int (xs 4), .int (xs 5)]) (rest := []) (wc := [e0 k a, e26 k a, e31 k a]) ⟨hx, hb, hml, hown, htc⟩ (c_X11_moved l D k a (xs 1) (xs 2) (xs 3) (xs 4) (xs 5)) (cwV 5 htc gS_X11_moved rfl rfl rfl (by decide +kernel) ⟨Nat.le_of_ble_eq_true rfl, Nat.le_of_ble_eq_true rfl⟩) hP hK [0, 26, 31] rfl 0 rfl rfl rfl rfl hl.1 rfl (Nat.le_of_ble_eq_true rfl) dL_law_1169 ⟨Nat.le_of_ble_eq_true rfl, Nat.le_of_ble_eq_true rfl⟩ (fun r6 hr6 => ?_)
  obtain rfl := hr6
  refine lv_aload_n hx hb dL_law_1172 rfl (lv_at hl 2 rfl) ?_
  refine lv_aload_n hx hb dL_law_1173 rfl (lv_at hl 0 rfl) ?_
  refine lv_iload_n hx hb dL_law_1174 rfl (lv_at hl 3 rfl) ?_
  refine lv_iconst (v := 1) hx hb dL_law_1175 (by decide) ?_
  refine lv_iadd hx hb dL_law_1176 ?_
  refine lv_topi (fun x7 ex7 => ?_)
  obtain rfl : x7 = 1 := ex7.trans (by decide)
  refine va_sld hx hb hX hbl hbA hS (vp_in_iff.mpr (by decide)) dL_law_1177 ?_
  refine W.eq (g2 := F0 m 1178 ls [.int (xs 1), .ref (bb 0), .int (-2000000000)]) rfl ?_
  refine lv_aload_n hx hb dL_law_1178 rfl (lv_at hl 0 rfl) ?_
  refine lv_iload_n hx hb dL_law_1179 rfl (lv_at hl 3 rfl) ?_
  refine lv_iconst (v := 2) hx hb dL_law_1180 (by decide) ?_
  refine lv_iadd hx hb dL_law_1181 ?_
  refine lv_topi (fun x8 ex8 => ?_)
  obtain rfl : x8 = 2 := ex8.trans (by decide)
  refine va_sld hx hb hX hbl hbA hS (vp_in_iff.mpr (by decide)) dL_law_1182 ?_
  refine W.eq (g2 := F0 m 1183 ls [.int (xs 2), .int (xs 1), .ref (bb 0), .int (-2000000000)]) rfl ?_
  refine lv_aload_n hx hb dL_law_1183 rfl (lv_at hl 0 rfl) ?_
  refine lv_iload_n hx hb dL_law_1184 rfl (lv_at hl 3 rfl) ?_
  refine lv_iconst (v := 3) hx hb dL_law_1185 (by decide) ?_
  refine lv_iadd hx hb dL_law_1186 ?_
  refine lv_topi (fun x9 ex9 => ?_)
  obtain rfl : x9 = 3 := ex9.trans (by decide)
  refine va_sld hx hb hX hbl hbA hS (vp_in_iff.mpr (by decide)) dL_law_1187 ?_
  refine W.eq (g2 := F0 m 1188 ls [.int (xs 3), .int (xs 2), .int (xs 1), .ref (bb 0), .int (-2000000000)]) rfl ?_
  refine lv_aload_n hx hb dL_law_1188 rfl (lv_at hl 0 rfl) ?_
  refine lv_iload_n hx hb dL_law_1189 rfl (lv_at hl 3 rfl) ?_
  refine lv_iconst (v := 4) hx hb dL_law_1190 (by decide) ?_
  refine lv_iadd hx hb dL_law_1191 ?_
  refine lv_topi (fun x10 ex10 => ?_)
  obtain rfl : x10 = 4 := ex10.trans (by decide)
  refine va_sld hx hb hX hbl hbA hS (vp_in_iff.mpr (by decide)) dL_law_1192 ?_
  refine W.eq (g2 := F0 m 1193 ls [.int (xs 4), .int (xs 3), .int (xs 2), .int (xs 1), .ref (bb 0), .int (-2000000000)]) rfl ?_
  refine lv_aload_n hx hb dL_law_1193 rfl (lv_at hl 0 rfl) ?_
  refine lv_iload_n hx hb dL_law_1194 rfl (lv_at hl 3 rfl) ?_
  refine lv_iconst (v := 5) hx hb dL_law_1195 (by decide) ?_
  refine lv_iadd hx hb dL_law_1196 ?_
  refine lv_topi (fun x11 ex11 => ?_)
  obtain rfl : x11 = 5 := ex11.trans (by decide)
  refine va_sld hx hb hX hbl hbA hS (vp_in_iff.mpr (by decide)) dL_law_1197 ?_
  refine W.eq (g2 := F0 m 1198 ls [.int (xs 5), .int (xs 4), .int (xs 3), .int (xs 2), .int (xs 1), .ref (bb 0), .int (-2000000000)]) rfl ?_
  have htc := fun w h => hts0 w (hwL_X12_moved w h)
  refine pvi (C := RX12) (As := [.int (xs 1), .int (xs 2), .int (xs 3), .int (xs 4), .int (xs 5)]) (rest := [.int (-2000000000)]) (wc := [m0 k bb, m1 k bb]) ⟨hx, hb, hml, hown, htc⟩ (c_X12_moved l D k bb (xs 1) (xs 2) (xs 3) (xs 4) (xs 5)) (cwV 5 htc gS_X12_moved rfl rfl rfl (by decide +kernel) ⟨Nat.le_of_ble_eq_true rfl, Nat.le_of_ble_eq_true rfl⟩) hP hK [48, 49] rfl 48 rfl rfl rfl rfl hl.1 rfl (Nat.le_of_ble_eq_true rfl) dL_law_1198 ⟨Nat.le_of_ble_eq_true rfl, Nat.le_of_ble_eq_true rfl⟩ (fun r12 hr12 => ?_)
  obtain rfl := hr12
  refine lv_icmp_eq (tgt := 1770) hx hb dL_law_1201 (by decide) (fun _ => ?_) (fun h => absurd (by decide) h)
  exact law_tail C0 (Nat.le_refl 6) hS (lv_sub hl [0, 1, 2, 3] rfl) (Nat.le_of_ble_eq_true rfl) (Nat.le_of_ble_eq_true rfl)
set_option maxHeartbeats 4000000 in
set_option maxRecDepth 100000 in
theorem law_31 {p : Program} {l : Launch} {e : Env} {s : State} {m : MethodId} {below : List Frame} {meth : Method} {c : Code} {b : Nat} {xs : Nat → Int32} {D : va_G} {k : Nat → ClassId} {a bb : Nat → Nat} (C0 : lw_At p s m meth c b 6 xs) (hN : NW s) (hK : va_K D vwCl (TYS k) s) {H : Heap} {locs : List Loc} (hP : va_P D vwCl (ALLW k a bb) H) (hD : va_D (fun q : Nat => s.heap.size ≤ q) (ALLW k a bb)) (hS : va_S (fun q : Nat => s.heap.size ≤ q) s.heap H locs) {ls : Array Slot} (hl : lv_has ls 4 [(0, .ref b), (1, .ref (a 0)), (2, .ref (bb 0)), (3, .int 0)]) : W p l e room_1 s m #[Value.ref b] below meth c H locs 66 21009 (lw_Z below #[Value.ref b] s) (F0 m 1206 ls []) := by
  obtain ⟨hx, hb, hr, hml, hown, hts0, hX, hbl, hlocks, hgv⟩ := id C0
  have hA : ∀ q : Nat, s.heap.size ≤ q → (fun q : Nat => s.heap.size ≤ q) q := fun _ h => h
  have hbA : ¬ (fun q : Nat => s.heap.size ≤ q) b := Nat.not_le.mpr hbl
  refine lv_aload_n hx hb dL_law_1206 rfl (lv_at hl 1 rfl) ?_
  refine lv_aload_n hx hb dL_law_1207 rfl (lv_at hl 0 rfl) ?_
  refine lv_iload_n hx hb dL_law_1208 rfl (lv_at hl 3 rfl) ?_
  refine lv_iconst (v := 1) hx hb dL_law_1209 (by decide) ?_
  refine lv_iadd hx hb dL_law_1210 ?_
  refine lv_topi (fun x1 ex1 => ?_)
  obtain rfl : x1 = 1 := ex1.trans (by decide)
  refine va_sld hx hb hX hbl hbA hS (vp_in_iff.mpr (by decide)) dL_law_1211 ?_
  refine W.eq (g2 := F0 m 1212 ls [.int (xs 1), .ref (a 0)]) rfl ?_
  refine lv_aload_n hx hb dL_law_1212 rfl (lv_at hl 0 rfl) ?_
  refine lv_iload_n hx hb dL_law_1213 rfl (lv_at hl 3 rfl) ?_
  refine lv_iconst (v := 2) hx hb dL_law_1214 (by decide) ?_
  refine lv_iadd hx hb dL_law_1215 ?_
  refine lv_topi (fun x2 ex2 => ?_)
  obtain rfl : x2 = 2 := ex2.trans (by decide)
  refine va_sld hx hb hX hbl hbA hS (vp_in_iff.mpr (by decide)) dL_law_1216 ?_
  refine W.eq (g2 := F0 m 1217 ls [.int (xs 2), .int (xs 1), .ref (a 0)]) rfl ?_
  refine lv_aload_n hx hb dL_law_1217 rfl (lv_at hl 0 rfl) ?_
  refine lv_iload_n hx hb dL_law_1218 rfl (lv_at hl 3 rfl) ?_
  refine lv_iconst (v := 3) hx hb dL_law_1219 (by decide) ?_
  refine lv_iadd hx hb dL_law_1220 ?_
  refine lv_topi (fun x3 ex3 => ?_)
  obtain rfl : x3 = 3 := ex3.trans (by decide)
  refine va_sld hx hb hX hbl hbA hS (vp_in_iff.mpr (by decide)) dL_law_1221 ?_
  refine W.eq (g2 := F0 m 1222 ls [.int (xs 3), .int (xs 2), .int (xs 1), .ref (a 0)]) rfl ?_
  have htc := fun w h => hts0 w (hwL_X11_risk w h)
  refine pvi (C := RX11) (As := [.int (xs 1), .int (xs 2), .int (xs 3)]) (rest := []) (wc := [e0 k a, e26 k a]) ⟨hx, hb, hml, hown, htc⟩ (c_X11_risk l D k a (xs 1) (xs 2) (xs 3)) (cwV 3 htc gS_X11_risk rfl rfl rfl (by decide +kernel) ⟨Nat.le_of_ble_eq_true rfl, Nat.le_of_ble_eq_true rfl⟩) hP hK [0, 26] rfl 0 rfl rfl rfl rfl hl.1 rfl (Nat.le_of_ble_eq_true rfl) dL_law_1222 ⟨Nat.le_of_ble_eq_true rfl, Nat.le_of_ble_eq_true rfl⟩ (fun r4 hr4 => ?_)
  obtain rfl := hr4
  refine lv_aload_n hx hb dL_law_1225 rfl (lv_at hl 2 rfl) ?_
  refine lv_aload_n hx hb dL_law_1226 rfl (lv_at hl 0 rfl) ?_
  refine lv_iload_n hx hb dL_law_1227 rfl (lv_at hl 3 rfl) ?_
  refine lv_iconst (v := 1) hx hb dL_law_1228 (by decide) ?_
  refine lv_iadd hx hb dL_law_1229 ?_
  refine lv_topi (fun x5 ex5 => ?_)
  obtain rfl : x5 = 1 := ex5.trans (by decide)
  refine va_sld hx hb hX hbl hbA hS (vp_in_iff.mpr (by decide)) dL_law_1230 ?_
  refine W.eq (g2 := F0 m 1231 ls [.int (xs 1), .ref (bb 0), .int (-2)]) rfl ?_
  refine lv_aload_n hx hb dL_law_1231 rfl (lv_at hl 0 rfl) ?_
  refine lv_iload_n hx hb dL_law_1232 rfl (lv_at hl 3 rfl) ?_
  refine lv_iconst (v := 2) hx hb dL_law_1233 (by decide) ?_
  refine lv_iadd hx hb dL_law_1234 ?_
  refine lv_topi (fun x6 ex6 => ?_)
  obtain rfl : x6 = 2 := ex6.trans (by decide)
  refine va_sld hx hb hX hbl hbA hS (vp_in_iff.mpr (by decide)) dL_law_1235 ?_
  refine W.eq (g2 := F0 m 1236 ls [.int (xs 2), .int (xs 1), .ref (bb 0), .int (-2)]) rfl ?_
  refine lv_aload_n hx hb dL_law_1236 rfl (lv_at hl 0 rfl) ?_
  refine lv_iload_n hx hb dL_law_1237 rfl (lv_at hl 3 rfl) ?_
  refine lv_iconst (v := 3) hx hb dL_law_1238 (by decide) ?_
  refine lv_iadd hx hb dL_law_1239 ?_
  refine lv_topi (fun x7 ex7 => ?_)
  obtain rfl : x7 = 3 := ex7.trans (by decide)
  refine va_sld hx hb hX hbl hbA hS (vp_in_iff.mpr (by decide)) dL_law_1240 ?_
  refine W.eq (g2 := F0 m 1241 ls [.int (xs 3), .int (xs 2), .int (xs 1), .ref (bb 0), .int (-2)]) rfl ?_
  have htc := fun w h => hts0 w (hwL_X12_risk w h)
  refine pvi (C := RX12) (As := [.int (xs 1), .int (xs 2), .int (xs 3)]) (rest := [.int (-2)]) (wc := [m0 k bb, m1 k bb]) ⟨hx, hb, hml, hown, htc⟩ (c_X12_risk l D k bb (xs 1) (xs 2) (xs 3)) (cwV 3 htc gS_X12_risk rfl rfl rfl (by decide +kernel) ⟨Nat.le_of_ble_eq_true rfl, Nat.le_of_ble_eq_true rfl⟩) hP hK [48, 49] rfl 48 rfl rfl rfl rfl hl.1 rfl (Nat.le_of_ble_eq_true rfl) dL_law_1241 ⟨Nat.le_of_ble_eq_true rfl, Nat.le_of_ble_eq_true rfl⟩ (fun r8 hr8 => ?_)
  obtain rfl := hr8
  refine lv_icmp_eq (tgt := 1770) hx hb dL_law_1244 (by decide) (fun _ => ?_) (fun h => absurd (by decide) h)
  exact law_tail C0 (Nat.le_refl 6) hS (lv_sub hl [0, 1, 2, 3] rfl) (Nat.le_of_ble_eq_true rfl) (Nat.le_of_ble_eq_true rfl)
set_option maxHeartbeats 4000000 in
set_option maxRecDepth 100000 in
theorem law_32 {p : Program} {l : Launch} {e : Env} {s : State} {m : MethodId} {below : List Frame} {meth : Method} {c : Code} {b : Nat} {xs : Nat → Int32} {D : va_G} {k : Nat → ClassId} {a bb : Nat → Nat} (C0 : lw_At p s m meth c b 6 xs) (hN : NW s) (hK : va_K D vwCl (TYS k) s) {H : Heap} {locs : List Loc} (hP : va_P D vwCl (ALLW k a bb) H) (hD : va_D (fun q : Nat => s.heap.size ≤ q) (ALLW k a bb)) (hS : va_S (fun q : Nat => s.heap.size ≤ q) s.heap H locs) {ls : Array Slot} (hl : lv_has ls 4 [(0, .ref b), (1, .ref (a 0)), (2, .ref (bb 0)), (3, .int 0)]) : W p l e room_1 s m #[Value.ref b] below meth c H locs 66 21009 (lw_Z below #[Value.ref b] s) (F0 m 1249 ls []) := by
  obtain ⟨hx, hb, hr, hml, hown, hts0, hX, hbl, hlocks, hgv⟩ := id C0
  have hA : ∀ q : Nat, s.heap.size ≤ q → (fun q : Nat => s.heap.size ≤ q) q := fun _ h => h
  have hbA : ¬ (fun q : Nat => s.heap.size ≤ q) b := Nat.not_le.mpr hbl
  refine lv_aload_n hx hb dL_law_1249 rfl (lv_at hl 1 rfl) ?_
  refine lv_aload_n hx hb dL_law_1250 rfl (lv_at hl 0 rfl) ?_
  refine lv_iload_n hx hb dL_law_1251 rfl (lv_at hl 3 rfl) ?_
  refine lv_iconst (v := 1) hx hb dL_law_1252 (by decide) ?_
  refine lv_iadd hx hb dL_law_1253 ?_
  refine lv_topi (fun x1 ex1 => ?_)
  obtain rfl : x1 = 1 := ex1.trans (by decide)
  refine va_sld hx hb hX hbl hbA hS (vp_in_iff.mpr (by decide)) dL_law_1254 ?_
  refine W.eq (g2 := F0 m 1255 ls [.int (xs 1), .ref (a 0)]) rfl ?_
  refine lv_aload_n hx hb dL_law_1255 rfl (lv_at hl 0 rfl) ?_
  refine lv_iload_n hx hb dL_law_1256 rfl (lv_at hl 3 rfl) ?_
  refine lv_iconst (v := 2) hx hb dL_law_1257 (by decide) ?_
  refine lv_iadd hx hb dL_law_1258 ?_
  refine lv_topi (fun x2 ex2 => ?_)
  obtain rfl : x2 = 2 := ex2.trans (by decide)
  refine va_sld hx hb hX hbl hbA hS (vp_in_iff.mpr (by decide)) dL_law_1259 ?_
  refine W.eq (g2 := F0 m 1260 ls [.int (xs 2), .int (xs 1), .ref (a 0)]) rfl ?_
  refine lv_aload_n hx hb dL_law_1260 rfl (lv_at hl 0 rfl) ?_
  refine lv_iload_n hx hb dL_law_1261 rfl (lv_at hl 3 rfl) ?_
  refine lv_iconst (v := 3) hx hb dL_law_1262 (by decide) ?_
  refine lv_iadd hx hb dL_law_1263 ?_
  refine lv_topi (fun x3 ex3 => ?_)
  obtain rfl : x3 = 3 := ex3.trans (by decide)
  refine va_sld hx hb hX hbl hbA hS (vp_in_iff.mpr (by decide)) dL_law_1264 ?_
  refine W.eq (g2 := F0 m 1265 ls [.int (xs 3), .int (xs 2), .int (xs 1), .ref (a 0)]) rfl ?_
  have htc := fun w h => hts0 w (hwL_X11_safest w h)
  refine pvi (C := RX11) (As := [.int (xs 1), .int (xs 2), .int (xs 3)]) (rest := []) (wc := [e0 k a, e26 k a, e31 k a]) ⟨hx, hb, hml, hown, htc⟩ (c_X11_safest l D k a (xs 1) (xs 2) (xs 3)) (cwV 3 htc gS_X11_safest rfl rfl rfl (by decide +kernel) ⟨Nat.le_of_ble_eq_true rfl, Nat.le_of_ble_eq_true rfl⟩) hP hK [0, 26, 31] rfl 0 rfl rfl rfl rfl hl.1 rfl (Nat.le_of_ble_eq_true rfl) dL_law_1265 ⟨Nat.le_of_ble_eq_true rfl, Nat.le_of_ble_eq_true rfl⟩ (fun r4 hr4 => ?_)
  obtain rfl := hr4
  refine lv_aload_n hx hb dL_law_1268 rfl (lv_at hl 2 rfl) ?_
  refine lv_aload_n hx hb dL_law_1269 rfl (lv_at hl 0 rfl) ?_
  refine lv_iload_n hx hb dL_law_1270 rfl (lv_at hl 3 rfl) ?_
  refine lv_iconst (v := 1) hx hb dL_law_1271 (by decide) ?_
  refine lv_iadd hx hb dL_law_1272 ?_
  refine lv_topi (fun x5 ex5 => ?_)
  obtain rfl : x5 = 1 := ex5.trans (by decide)
  refine va_sld hx hb hX hbl hbA hS (vp_in_iff.mpr (by decide)) dL_law_1273 ?_
  refine W.eq (g2 := F0 m 1274 ls [.int (xs 1), .ref (bb 0), .int (-2)]) rfl ?_
  refine lv_aload_n hx hb dL_law_1274 rfl (lv_at hl 0 rfl) ?_
  refine lv_iload_n hx hb dL_law_1275 rfl (lv_at hl 3 rfl) ?_
  refine lv_iconst (v := 2) hx hb dL_law_1276 (by decide) ?_
  refine lv_iadd hx hb dL_law_1277 ?_
  refine lv_topi (fun x6 ex6 => ?_)
  obtain rfl : x6 = 2 := ex6.trans (by decide)
  refine va_sld hx hb hX hbl hbA hS (vp_in_iff.mpr (by decide)) dL_law_1278 ?_
  refine W.eq (g2 := F0 m 1279 ls [.int (xs 2), .int (xs 1), .ref (bb 0), .int (-2)]) rfl ?_
  refine lv_aload_n hx hb dL_law_1279 rfl (lv_at hl 0 rfl) ?_
  refine lv_iload_n hx hb dL_law_1280 rfl (lv_at hl 3 rfl) ?_
  refine lv_iconst (v := 3) hx hb dL_law_1281 (by decide) ?_
  refine lv_iadd hx hb dL_law_1282 ?_
  refine lv_topi (fun x7 ex7 => ?_)
  obtain rfl : x7 = 3 := ex7.trans (by decide)
  refine va_sld hx hb hX hbl hbA hS (vp_in_iff.mpr (by decide)) dL_law_1283 ?_
  refine W.eq (g2 := F0 m 1284 ls [.int (xs 3), .int (xs 2), .int (xs 1), .ref (bb 0), .int (-2)]) rfl ?_
  have htc := fun w h => hts0 w (hwL_X12_safest w h)
  refine pvi (C := RX12) (As := [.int (xs 1), .int (xs 2), .int (xs 3)]) (rest := [.int (-2)]) (wc := [m0 k bb, m1 k bb]) ⟨hx, hb, hml, hown, htc⟩ (c_X12_safest l D k bb (xs 1) (xs 2) (xs 3)) (cwV 3 htc gS_X12_safest rfl rfl rfl (by decide +kernel) ⟨Nat.le_of_ble_eq_true rfl, Nat.le_of_ble_eq_true rfl⟩) hP hK [48, 49] rfl 48 rfl rfl rfl rfl hl.1 rfl (Nat.le_of_ble_eq_true rfl) dL_law_1284 ⟨Nat.le_of_ble_eq_true rfl, Nat.le_of_ble_eq_true rfl⟩ (fun r8 hr8 => ?_)
  obtain rfl := hr8
  refine lv_icmp_eq (tgt := 1770) hx hb dL_law_1287 (by decide) (fun _ => ?_) (fun h => absurd (by decide) h)
  exact law_tail C0 (Nat.le_refl 6) hS (lv_sub hl [0, 1, 2, 3] rfl) (Nat.le_of_ble_eq_true rfl) (Nat.le_of_ble_eq_true rfl)
set_option maxHeartbeats 4000000 in
set_option maxRecDepth 100000 in
theorem law_33 {p : Program} {l : Launch} {e : Env} {s : State} {m : MethodId} {below : List Frame} {meth : Method} {c : Code} {b : Nat} {xs : Nat → Int32} {D : va_G} {k : Nat → ClassId} {a bb : Nat → Nat} (C0 : lw_At p s m meth c b 6 xs) (hN : NW s) (hK : va_K D vwCl (TYS k) s) {H : Heap} {locs : List Loc} (hP : va_P D vwCl (ALLW k a bb) H) (hD : va_D (fun q : Nat => s.heap.size ≤ q) (ALLW k a bb)) (hS : va_S (fun q : Nat => s.heap.size ≤ q) s.heap H locs) {ls : Array Slot} (hl : lv_has ls 4 [(0, .ref b), (1, .ref (a 0)), (2, .ref (bb 0)), (3, .int 0)]) : W p l e room_1 s m #[Value.ref b] below meth c H locs 66 21009 (lw_Z below #[Value.ref b] s) (F0 m 1292 ls []) := by
  obtain ⟨hx, hb, hr, hml, hown, hts0, hX, hbl, hlocks, hgv⟩ := id C0
  have hA : ∀ q : Nat, s.heap.size ≤ q → (fun q : Nat => s.heap.size ≤ q) q := fun _ h => h
  have hbA : ¬ (fun q : Nat => s.heap.size ≤ q) b := Nat.not_le.mpr hbl
  refine lv_aload_n hx hb dL_law_1292 rfl (lv_at hl 1 rfl) ?_
  have htc := fun w h => hts0 w (hwL_X11_whole w h)
  refine pvi (C := RX11) (As := []) (rest := []) (wc := [e0 k a, e26 k a, e36 k a]) ⟨hx, hb, hml, hown, htc⟩ (c_X11_whole l D k a ) (cwV 0 htc gS_X11_whole rfl rfl rfl (by decide +kernel) ⟨Nat.le_of_ble_eq_true rfl, Nat.le_of_ble_eq_true rfl⟩) hP hK [0, 26, 36] rfl 0 rfl rfl rfl rfl hl.1 rfl (Nat.le_of_ble_eq_true rfl) dL_law_1293 ⟨Nat.le_of_ble_eq_true rfl, Nat.le_of_ble_eq_true rfl⟩ (fun r1 hr1 => ?_)
  obtain rfl := hr1
  refine lv_aload_n hx hb dL_law_1296 rfl (lv_at hl 2 rfl) ?_
  have htc := fun w h => hts0 w (hwL_X12_whole w h)
  refine pvi (C := RX12) (As := []) (rest := [.int 0]) (wc := [m0 k bb, m1 k bb]) ⟨hx, hb, hml, hown, htc⟩ (c_X12_whole l D k bb ) (cwV 0 htc gS_X12_whole rfl rfl rfl (by decide +kernel) ⟨Nat.le_of_ble_eq_true rfl, Nat.le_of_ble_eq_true rfl⟩) hP hK [48, 49] rfl 48 rfl rfl rfl rfl hl.1 rfl (Nat.le_of_ble_eq_true rfl) dL_law_1297 ⟨Nat.le_of_ble_eq_true rfl, Nat.le_of_ble_eq_true rfl⟩ (fun r2 hr2 => ?_)
  obtain rfl := hr2
  refine lv_icmp_eq (tgt := 1770) hx hb dL_law_1300 (by decide) (fun _ => ?_) (fun h => absurd (by decide) h)
  exact law_tail C0 (Nat.le_refl 6) hS (lv_sub hl [0, 1, 2, 3] rfl) (Nat.le_of_ble_eq_true rfl) (Nat.le_of_ble_eq_true rfl)
set_option maxHeartbeats 4000000 in
set_option maxRecDepth 100000 in
theorem law_34 {p : Program} {l : Launch} {e : Env} {s : State} {m : MethodId} {below : List Frame} {meth : Method} {c : Code} {b : Nat} {xs : Nat → Int32} {D : va_G} {k : Nat → ClassId} {a bb : Nat → Nat} (C0 : lw_At p s m meth c b 6 xs) (hN : NW s) (hK : va_K D vwCl (TYS k) s) {H : Heap} {locs : List Loc} (hP : va_P D vwCl (ALLW k a bb) H) (hD : va_D (fun q : Nat => s.heap.size ≤ q) (ALLW k a bb)) (hS : va_S (fun q : Nat => s.heap.size ≤ q) s.heap H locs) {ls : Array Slot} (hl : lv_has ls 4 [(0, .ref b), (1, .ref (a 0)), (2, .ref (bb 0)), (3, .int 0)]) : W p l e room_1 s m #[Value.ref b] below meth c H locs 66 21009 (lw_Z below #[Value.ref b] s) (F0 m 1305 ls []) := by
  obtain ⟨hx, hb, hr, hml, hown, hts0, hX, hbl, hlocks, hgv⟩ := id C0
  have hA : ∀ q : Nat, s.heap.size ≤ q → (fun q : Nat => s.heap.size ≤ q) q := fun _ h => h
  have hbA : ¬ (fun q : Nat => s.heap.size ≤ q) b := Nat.not_le.mpr hbl
  refine lv_aload_n hx hb dL_law_1305 rfl (lv_at hl 1 rfl) ?_
  refine lv_aload_n hx hb dL_law_1306 rfl (lv_at hl 0 rfl) ?_
  refine lv_iload_n hx hb dL_law_1307 rfl (lv_at hl 3 rfl) ?_
  refine lv_iconst (v := 1) hx hb dL_law_1308 (by decide) ?_
  refine lv_iadd hx hb dL_law_1309 ?_
  refine lv_topi (fun x1 ex1 => ?_)
  obtain rfl : x1 = 1 := ex1.trans (by decide)
  refine va_sld hx hb hX hbl hbA hS (vp_in_iff.mpr (by decide)) dL_law_1310 ?_
  refine W.eq (g2 := F0 m 1311 ls [.int (xs 1), .ref (a 0)]) rfl ?_
  have htc := fun w h => hts0 w (hwL_X11_staying w h)
  refine pvi (C := RX11) (As := [.int (xs 1)]) (rest := []) (wc := [e0 k a, e26 k a, e36 k a]) ⟨hx, hb, hml, hown, htc⟩ (c_X11_staying l D k a (xs 1)) (cwV 1 htc gS_X11_staying rfl rfl rfl (by decide +kernel) ⟨Nat.le_of_ble_eq_true rfl, Nat.le_of_ble_eq_true rfl⟩) hP hK [0, 26, 36] rfl 0 rfl rfl rfl rfl hl.1 rfl (Nat.le_of_ble_eq_true rfl) dL_law_1311 ⟨Nat.le_of_ble_eq_true rfl, Nat.le_of_ble_eq_true rfl⟩ (fun r2 hr2 => ?_)
  obtain rfl := hr2
  refine lv_aload_n hx hb dL_law_1314 rfl (lv_at hl 2 rfl) ?_
  refine lv_aload_n hx hb dL_law_1315 rfl (lv_at hl 0 rfl) ?_
  refine lv_iload_n hx hb dL_law_1316 rfl (lv_at hl 3 rfl) ?_
  refine lv_iconst (v := 1) hx hb dL_law_1317 (by decide) ?_
  refine lv_iadd hx hb dL_law_1318 ?_
  refine lv_topi (fun x3 ex3 => ?_)
  obtain rfl : x3 = 1 := ex3.trans (by decide)
  refine va_sld hx hb hX hbl hbA hS (vp_in_iff.mpr (by decide)) dL_law_1319 ?_
  refine W.eq (g2 := F0 m 1320 ls [.int (xs 1), .ref (bb 0), .int (-2)]) rfl ?_
  have htc := fun w h => hts0 w (hwL_X12_staying w h)
  refine pvi (C := RX12) (As := [.int (xs 1)]) (rest := [.int (-2)]) (wc := [m0 k bb, m1 k bb]) ⟨hx, hb, hml, hown, htc⟩ (c_X12_staying l D k bb (xs 1)) (cwV 1 htc gS_X12_staying rfl rfl rfl (by decide +kernel) ⟨Nat.le_of_ble_eq_true rfl, Nat.le_of_ble_eq_true rfl⟩) hP hK [48, 49] rfl 48 rfl rfl rfl rfl hl.1 rfl (Nat.le_of_ble_eq_true rfl) dL_law_1320 ⟨Nat.le_of_ble_eq_true rfl, Nat.le_of_ble_eq_true rfl⟩ (fun r4 hr4 => ?_)
  obtain rfl := hr4
  refine lv_icmp_eq (tgt := 1770) hx hb dL_law_1323 (by decide) (fun _ => ?_) (fun h => absurd (by decide) h)
  exact law_tail C0 (Nat.le_refl 6) hS (lv_sub hl [0, 1, 2, 3] rfl) (Nat.le_of_ble_eq_true rfl) (Nat.le_of_ble_eq_true rfl)
set_option maxHeartbeats 4000000 in
set_option maxRecDepth 100000 in
theorem law_35 {p : Program} {l : Launch} {e : Env} {s : State} {m : MethodId} {below : List Frame} {meth : Method} {c : Code} {b : Nat} {xs : Nat → Int32} {D : va_G} {k : Nat → ClassId} {a bb : Nat → Nat} (C0 : lw_At p s m meth c b 6 xs) (hN : NW s) (hK : va_K D vwCl (TYS k) s) {H : Heap} {locs : List Loc} (hP : va_P D vwCl (ALLW k a bb) H) (hD : va_D (fun q : Nat => s.heap.size ≤ q) (ALLW k a bb)) (hS : va_S (fun q : Nat => s.heap.size ≤ q) s.heap H locs) {ls : Array Slot} (hl : lv_has ls 4 [(0, .ref b), (1, .ref (a 0)), (2, .ref (bb 0)), (3, .int 0)]) : W p l e room_1 s m #[Value.ref b] below meth c H locs 66 21009 (lw_Z below #[Value.ref b] s) (F0 m 1328 ls []) := by
  obtain ⟨hx, hb, hr, hml, hown, hts0, hX, hbl, hlocks, hgv⟩ := id C0
  have hA : ∀ q : Nat, s.heap.size ≤ q → (fun q : Nat => s.heap.size ≤ q) q := fun _ h => h
  have hbA : ¬ (fun q : Nat => s.heap.size ≤ q) b := Nat.not_le.mpr hbl
  refine lv_aload_n hx hb dL_law_1328 rfl (lv_at hl 1 rfl) ?_
  refine lv_aload_n hx hb dL_law_1329 rfl (lv_at hl 0 rfl) ?_
  refine lv_iload_n hx hb dL_law_1330 rfl (lv_at hl 3 rfl) ?_
  refine lv_iconst (v := 1) hx hb dL_law_1331 (by decide) ?_
  refine lv_iadd hx hb dL_law_1332 ?_
  refine lv_topi (fun x1 ex1 => ?_)
  obtain rfl : x1 = 1 := ex1.trans (by decide)
  refine va_sld hx hb hX hbl hbA hS (vp_in_iff.mpr (by decide)) dL_law_1333 ?_
  refine W.eq (g2 := F0 m 1334 ls [.int (xs 1), .ref (a 0)]) rfl ?_
  refine lv_aload_n hx hb dL_law_1334 rfl (lv_at hl 0 rfl) ?_
  refine lv_iload_n hx hb dL_law_1335 rfl (lv_at hl 3 rfl) ?_
  refine lv_iconst (v := 2) hx hb dL_law_1336 (by decide) ?_
  refine lv_iadd hx hb dL_law_1337 ?_
  refine lv_topi (fun x2 ex2 => ?_)
  obtain rfl : x2 = 2 := ex2.trans (by decide)
  refine va_sld hx hb hX hbl hbA hS (vp_in_iff.mpr (by decide)) dL_law_1338 ?_
  refine W.eq (g2 := F0 m 1339 ls [.int (xs 2), .int (xs 1), .ref (a 0)]) rfl ?_
  have htc := fun w h => hts0 w (hwL_X11_asked w h)
  refine pvi (C := RX11) (As := [.int (xs 1), .int (xs 2)]) (rest := []) (wc := [e0 k a, e26 k a, e36 k a]) ⟨hx, hb, hml, hown, htc⟩ (c_X11_asked l D k a (xs 1) (xs 2)) (cwV 2 htc gS_X11_asked rfl rfl rfl (by decide +kernel) ⟨Nat.le_of_ble_eq_true rfl, Nat.le_of_ble_eq_true rfl⟩) hP hK [0, 26, 36] rfl 0 rfl rfl rfl rfl hl.1 rfl (Nat.le_of_ble_eq_true rfl) dL_law_1339 ⟨Nat.le_of_ble_eq_true rfl, Nat.le_of_ble_eq_true rfl⟩ (fun r3 hr3 => ?_)
  obtain rfl := hr3
  refine lv_aload_n hx hb dL_law_1342 rfl (lv_at hl 2 rfl) ?_
  refine lv_aload_n hx hb dL_law_1343 rfl (lv_at hl 0 rfl) ?_
  refine lv_iload_n hx hb dL_law_1344 rfl (lv_at hl 3 rfl) ?_
  refine lv_iconst (v := 1) hx hb dL_law_1345 (by decide) ?_
  refine lv_iadd hx hb dL_law_1346 ?_
  refine lv_topi (fun x4 ex4 => ?_)
  obtain rfl : x4 = 1 := ex4.trans (by decide)
  refine va_sld hx hb hX hbl hbA hS (vp_in_iff.mpr (by decide)) dL_law_1347 ?_
  refine W.eq (g2 := F0 m 1348 ls [.int (xs 1), .ref (bb 0), .int (-2)]) rfl ?_
  refine lv_aload_n hx hb dL_law_1348 rfl (lv_at hl 0 rfl) ?_
  refine lv_iload_n hx hb dL_law_1349 rfl (lv_at hl 3 rfl) ?_
  refine lv_iconst (v := 2) hx hb dL_law_1350 (by decide) ?_
  refine lv_iadd hx hb dL_law_1351 ?_
  refine lv_topi (fun x5 ex5 => ?_)
  obtain rfl : x5 = 2 := ex5.trans (by decide)
  refine va_sld hx hb hX hbl hbA hS (vp_in_iff.mpr (by decide)) dL_law_1352 ?_
  refine W.eq (g2 := F0 m 1353 ls [.int (xs 2), .int (xs 1), .ref (bb 0), .int (-2)]) rfl ?_
  have htc := fun w h => hts0 w (hwL_X12_asked w h)
  refine pvi (C := RX12) (As := [.int (xs 1), .int (xs 2)]) (rest := [.int (-2)]) (wc := [m0 k bb, m1 k bb]) ⟨hx, hb, hml, hown, htc⟩ (c_X12_asked l D k bb (xs 1) (xs 2)) (cwV 2 htc gS_X12_asked rfl rfl rfl (by decide +kernel) ⟨Nat.le_of_ble_eq_true rfl, Nat.le_of_ble_eq_true rfl⟩) hP hK [48, 49] rfl 48 rfl rfl rfl rfl hl.1 rfl (Nat.le_of_ble_eq_true rfl) dL_law_1353 ⟨Nat.le_of_ble_eq_true rfl, Nat.le_of_ble_eq_true rfl⟩ (fun r6 hr6 => ?_)
  obtain rfl := hr6
  refine lv_icmp_eq (tgt := 1770) hx hb dL_law_1356 (by decide) (fun _ => ?_) (fun h => absurd (by decide) h)
  exact law_tail C0 (Nat.le_refl 6) hS (lv_sub hl [0, 1, 2, 3] rfl) (Nat.le_of_ble_eq_true rfl) (Nat.le_of_ble_eq_true rfl)
set_option maxHeartbeats 4000000 in
set_option maxRecDepth 100000 in
theorem law_36 {p : Program} {l : Launch} {e : Env} {s : State} {m : MethodId} {below : List Frame} {meth : Method} {c : Code} {b : Nat} {xs : Nat → Int32} {D : va_G} {k : Nat → ClassId} {a bb : Nat → Nat} (C0 : lw_At p s m meth c b 6 xs) (hN : NW s) (hK : va_K D vwCl (TYS k) s) {H : Heap} {locs : List Loc} (hP : va_P D vwCl (ALLW k a bb) H) (hD : va_D (fun q : Nat => s.heap.size ≤ q) (ALLW k a bb)) (hS : va_S (fun q : Nat => s.heap.size ≤ q) s.heap H locs) {ls : Array Slot} (hl : lv_has ls 4 [(0, .ref b), (1, .ref (a 0)), (2, .ref (bb 0)), (3, .int 0)]) : W p l e room_1 s m #[Value.ref b] below meth c H locs 66 21009 (lw_Z below #[Value.ref b] s) (F0 m 1361 ls []) := by
  obtain ⟨hx, hb, hr, hml, hown, hts0, hX, hbl, hlocks, hgv⟩ := id C0
  have hA : ∀ q : Nat, s.heap.size ≤ q → (fun q : Nat => s.heap.size ≤ q) q := fun _ h => h
  have hbA : ¬ (fun q : Nat => s.heap.size ≤ q) b := Nat.not_le.mpr hbl
  refine lv_aload_n hx hb dL_law_1361 rfl (lv_at hl 1 rfl) ?_
  refine lv_aload_n hx hb dL_law_1362 rfl (lv_at hl 0 rfl) ?_
  refine lv_iload_n hx hb dL_law_1363 rfl (lv_at hl 3 rfl) ?_
  refine lv_iconst (v := 1) hx hb dL_law_1364 (by decide) ?_
  refine lv_iadd hx hb dL_law_1365 ?_
  refine lv_topi (fun x1 ex1 => ?_)
  obtain rfl : x1 = 1 := ex1.trans (by decide)
  refine va_sld hx hb hX hbl hbA hS (vp_in_iff.mpr (by decide)) dL_law_1366 ?_
  refine W.eq (g2 := F0 m 1367 ls [.int (xs 1), .ref (a 0)]) rfl ?_
  refine lv_aload_n hx hb dL_law_1367 rfl (lv_at hl 0 rfl) ?_
  refine lv_iload_n hx hb dL_law_1368 rfl (lv_at hl 3 rfl) ?_
  refine lv_iconst (v := 2) hx hb dL_law_1369 (by decide) ?_
  refine lv_iadd hx hb dL_law_1370 ?_
  refine lv_topi (fun x2 ex2 => ?_)
  obtain rfl : x2 = 2 := ex2.trans (by decide)
  refine va_sld hx hb hX hbl hbA hS (vp_in_iff.mpr (by decide)) dL_law_1371 ?_
  refine W.eq (g2 := F0 m 1372 ls [.int (xs 2), .int (xs 1), .ref (a 0)]) rfl ?_
  have htc := fun w h => hts0 w (hwL_X11_who w h)
  refine pvi (C := RX11) (As := [.int (xs 1), .int (xs 2)]) (rest := []) (wc := [e0 k a, e26 k a, e36 k a]) ⟨hx, hb, hml, hown, htc⟩ (c_X11_who l D k a (xs 1) (xs 2)) (cwV 2 htc gS_X11_who rfl rfl rfl (by decide +kernel) ⟨Nat.le_of_ble_eq_true rfl, Nat.le_of_ble_eq_true rfl⟩) hP hK [0, 26, 36] rfl 0 rfl rfl rfl rfl hl.1 rfl (Nat.le_of_ble_eq_true rfl) dL_law_1372 ⟨Nat.le_of_ble_eq_true rfl, Nat.le_of_ble_eq_true rfl⟩ (fun r3 hr3 => ?_)
  rcases hr3 with ⟨g4, rfl⟩ | ⟨g4, rfl⟩
  · refine lv_aload_n hx hb dL_law_1375 rfl (lv_at hl 2 rfl) ?_
    refine lv_aload_n hx hb dL_law_1376 rfl (lv_at hl 0 rfl) ?_
    refine lv_iload_n hx hb dL_law_1377 rfl (lv_at hl 3 rfl) ?_
    refine lv_iconst (v := 1) hx hb dL_law_1378 (by decide) ?_
    refine lv_iadd hx hb dL_law_1379 ?_
    refine lv_topi (fun x5 ex5 => ?_)
    obtain rfl : x5 = 1 := ex5.trans (by decide)
    refine va_sld hx hb hX hbl hbA hS (vp_in_iff.mpr (by decide)) dL_law_1380 ?_
    refine W.eq (g2 := F0 m 1381 ls [.int (xs 1), .ref (bb 0), .int (-1)]) rfl ?_
    refine lv_aload_n hx hb dL_law_1381 rfl (lv_at hl 0 rfl) ?_
    refine lv_iload_n hx hb dL_law_1382 rfl (lv_at hl 3 rfl) ?_
    refine lv_iconst (v := 2) hx hb dL_law_1383 (by decide) ?_
    refine lv_iadd hx hb dL_law_1384 ?_
    refine lv_topi (fun x6 ex6 => ?_)
    obtain rfl : x6 = 2 := ex6.trans (by decide)
    refine va_sld hx hb hX hbl hbA hS (vp_in_iff.mpr (by decide)) dL_law_1385 ?_
    refine W.eq (g2 := F0 m 1386 ls [.int (xs 2), .int (xs 1), .ref (bb 0), .int (-1)]) rfl ?_
    have htc := fun w h => hts0 w (hwL_X12_who w h)
    refine pvi (C := RX12) (As := [.int (xs 1), .int (xs 2)]) (rest := [.int (-1)]) (wc := [m0 k bb, m1 k bb]) ⟨hx, hb, hml, hown, htc⟩ (c_X12_who l D k bb (xs 1) (xs 2)) (cwV 2 htc gS_X12_who rfl rfl rfl (by decide +kernel) ⟨Nat.le_of_ble_eq_true rfl, Nat.le_of_ble_eq_true rfl⟩) hP hK [48, 49] rfl 48 rfl rfl rfl rfl hl.1 rfl (Nat.le_of_ble_eq_true rfl) dL_law_1386 ⟨Nat.le_of_ble_eq_true rfl, Nat.le_of_ble_eq_true rfl⟩ (fun r7 hr7 => ?_)
    rcases hr7 with ⟨g8, rfl⟩ | ⟨g8, rfl⟩
    · refine lv_icmp_eq (tgt := 1770) hx hb dL_law_1389 (by decide) (fun _ => ?_) (fun h => absurd (by decide) h)
      exact law_tail C0 (Nat.le_refl 6) hS (lv_sub hl [0, 1, 2, 3] rfl) (Nat.le_of_ble_eq_true rfl) (Nat.le_of_ble_eq_true rfl)
    · exact False.elim (by (try simp only [i_lt, i_le, i_eq, Int32.toInt_toInt64, Int32.reduceToInt, Int64.reduceToInt] at g4 g8); omega)
  · refine lv_aload_n hx hb dL_law_1375 rfl (lv_at hl 2 rfl) ?_
    refine lv_aload_n hx hb dL_law_1376 rfl (lv_at hl 0 rfl) ?_
    refine lv_iload_n hx hb dL_law_1377 rfl (lv_at hl 3 rfl) ?_
    refine lv_iconst (v := 1) hx hb dL_law_1378 (by decide) ?_
    refine lv_iadd hx hb dL_law_1379 ?_
    refine lv_topi (fun x9 ex9 => ?_)
    obtain rfl : x9 = 1 := ex9.trans (by decide)
    refine va_sld hx hb hX hbl hbA hS (vp_in_iff.mpr (by decide)) dL_law_1380 ?_
    refine W.eq (g2 := F0 m 1381 ls [.int (xs 1), .ref (bb 0), .int (-2)]) rfl ?_
    refine lv_aload_n hx hb dL_law_1381 rfl (lv_at hl 0 rfl) ?_
    refine lv_iload_n hx hb dL_law_1382 rfl (lv_at hl 3 rfl) ?_
    refine lv_iconst (v := 2) hx hb dL_law_1383 (by decide) ?_
    refine lv_iadd hx hb dL_law_1384 ?_
    refine lv_topi (fun x10 ex10 => ?_)
    obtain rfl : x10 = 2 := ex10.trans (by decide)
    refine va_sld hx hb hX hbl hbA hS (vp_in_iff.mpr (by decide)) dL_law_1385 ?_
    refine W.eq (g2 := F0 m 1386 ls [.int (xs 2), .int (xs 1), .ref (bb 0), .int (-2)]) rfl ?_
    have htc := fun w h => hts0 w (hwL_X12_who w h)
    refine pvi (C := RX12) (As := [.int (xs 1), .int (xs 2)]) (rest := [.int (-2)]) (wc := [m0 k bb, m1 k bb]) ⟨hx, hb, hml, hown, htc⟩ (c_X12_who l D k bb (xs 1) (xs 2)) (cwV 2 htc gS_X12_who rfl rfl rfl (by decide +kernel) ⟨Nat.le_of_ble_eq_true rfl, Nat.le_of_ble_eq_true rfl⟩) hP hK [48, 49] rfl 48 rfl rfl rfl rfl hl.1 rfl (Nat.le_of_ble_eq_true rfl) dL_law_1386 ⟨Nat.le_of_ble_eq_true rfl, Nat.le_of_ble_eq_true rfl⟩ (fun r11 hr11 => ?_)
    rcases hr11 with ⟨g12, rfl⟩ | ⟨g12, rfl⟩
    · exact False.elim (by (try simp only [i_lt, i_le, i_eq, Int32.toInt_toInt64, Int32.reduceToInt, Int64.reduceToInt] at g4 g12); omega)
    · refine lv_icmp_eq (tgt := 1770) hx hb dL_law_1389 (by decide) (fun _ => ?_) (fun h => absurd (by decide) h)
      exact law_tail C0 (Nat.le_refl 6) hS (lv_sub hl [0, 1, 2, 3] rfl) (Nat.le_of_ble_eq_true rfl) (Nat.le_of_ble_eq_true rfl)
set_option maxHeartbeats 4000000 in
set_option maxRecDepth 100000 in
theorem law_37 {p : Program} {l : Launch} {e : Env} {s : State} {m : MethodId} {below : List Frame} {meth : Method} {c : Code} {b : Nat} {xs : Nat → Int32} {D : va_G} {k : Nat → ClassId} {a bb : Nat → Nat} (C0 : lw_At p s m meth c b 6 xs) (hN : NW s) (hK : va_K D vwCl (TYS k) s) {H : Heap} {locs : List Loc} (hP : va_P D vwCl (ALLW k a bb) H) (hD : va_D (fun q : Nat => s.heap.size ≤ q) (ALLW k a bb)) (hS : va_S (fun q : Nat => s.heap.size ≤ q) s.heap H locs) {ls : Array Slot} (hl : lv_has ls 4 [(0, .ref b), (1, .ref (a 0)), (2, .ref (bb 0)), (3, .int 0)]) : W p l e room_1 s m #[Value.ref b] below meth c H locs 66 21009 (lw_Z below #[Value.ref b] s) (F0 m 1394 ls []) := by
  obtain ⟨hx, hb, hr, hml, hown, hts0, hX, hbl, hlocks, hgv⟩ := id C0
  have hA : ∀ q : Nat, s.heap.size ≤ q → (fun q : Nat => s.heap.size ≤ q) q := fun _ h => h
  have hbA : ¬ (fun q : Nat => s.heap.size ≤ q) b := Nat.not_le.mpr hbl
  refine lv_aload_n hx hb dL_law_1394 rfl (lv_at hl 1 rfl) ?_
  refine lv_aload_n hx hb dL_law_1395 rfl (lv_at hl 0 rfl) ?_
  refine lv_iload_n hx hb dL_law_1396 rfl (lv_at hl 3 rfl) ?_
  refine lv_iconst (v := 1) hx hb dL_law_1397 (by decide) ?_
  refine lv_iadd hx hb dL_law_1398 ?_
  refine lv_topi (fun x1 ex1 => ?_)
  obtain rfl : x1 = 1 := ex1.trans (by decide)
  refine va_sld hx hb hX hbl hbA hS (vp_in_iff.mpr (by decide)) dL_law_1399 ?_
  refine W.eq (g2 := F0 m 1400 ls [.int (xs 1), .ref (a 0)]) rfl ?_
  have htc := fun w h => hts0 w (hwL_X11_rules w h)
  refine mvi (C := RX11) (As := [.int (xs 1)]) (rest := []) (wc := [e0 k a, e26 k a, e36 k a, e43 k a, e44 k a]) (wr := [e1 k a, e2 k a, e3 k a, e4 k a, e5 k a, e6 k a, e7 k a, e8 k a, e9 k a, e10 k a, e11 k a, e12 k a, e13 k a, e14 k a, e15 k a, e16 k a, e17 k a, e18 k a, e19 k a, e20 k a, e21 k a, e22 k a, e23 k a, e24 k a, e25 k a, e27 k a, e28 k a, e29 k a, e30 k a, e31 k a, e32 k a, e33 k a, e34 k a, e35 k a, e37 k a, e38 k a, e39 k a, e40 k a, e41 k a, e42 k a, e45 k a, e46 k a, e47 k a, m0 k bb, m1 k bb, m2 k bb, m3 k bb, m4 k bb, m5 k bb, m6 k bb, m7 k bb, m8 k bb, m9 k bb, m10 k bb, m11 k bb, m12 k bb, m13 k bb, m14 k bb, m15 k bb, m16 k bb, m17 k bb]) ⟨hx, hb, hml, hown, htc⟩ (fun sz => c_X11_rules l D k a (xs 1) sz) (cwV 1 htc gS_X11_rules rfl rfl rfl (by decide +kernel) ⟨Nat.le_of_ble_eq_true rfl, Nat.le_of_ble_eq_true rfl⟩) hP hK hD hN hS hA [0, 26, 36, 43, 44] [1, 2, 3, 4, 5, 6, 7, 8, 9, 10, 11, 12, 13, 14, 15, 16, 17, 18, 19, 20, 21, 22, 23, 24, 25, 27, 28, 29, 30, 31, 32, 33, 34, 35, 37, 38, 39, 40, 41, 42, 45, 46, 47, 48, 49, 50, 51, 52, 53, 54, 55, 56, 57, 58, 59, 60, 61, 62, 63, 64, 65] rfl rfl (by decide) rfl (by decide) (by decide) 0 rfl rfl rfl rfl hl.1 rfl (Nat.le_of_ble_eq_true rfl) dL_law_1400 ⟨Nat.le_of_ble_eq_true rfl, Nat.le_of_ble_eq_true rfl⟩ (fun ru2 u2 H locs hu2 hP hD hS => ?_)
  have hP : va_P D vwCl [e1 k a, e2 k a, e3 k a, e4 k a, e5 k a, e6 k a, e7 k a, e8 k a, e9 k a, e10 k a, e11 k a, e12 k a, e13 k a, e14 k a, e15 k a, e16 k a, e17 k a, e18 k a, e19 k a, e20 k a, e21 k a, e22 k a, e23 k a, e24 k a, e25 k a, e27 k a, e28 k a, e29 k a, e30 k a, e31 k a, e32 k a, e33 k a, e34 k a, e35 k a, e37 k a, e38 k a, e39 k a, e40 k a, e41 k a, e42 k a, e45 k a, e46 k a, e47 k a, m0 k bb, m1 k bb, m2 k bb, m3 k bb, m4 k bb, m5 k bb, m6 k bb, m7 k bb, m8 k bb, m9 k bb, m10 k bb, m11 k bb, m12 k bb, m13 k bb, m14 k bb, m15 k bb, m16 k bb, m17 k bb] H := hP
  have hD : va_D (fun q : Nat => s.heap.size ≤ q) [e1 k a, e2 k a, e3 k a, e4 k a, e5 k a, e6 k a, e7 k a, e8 k a, e9 k a, e10 k a, e11 k a, e12 k a, e13 k a, e14 k a, e15 k a, e16 k a, e17 k a, e18 k a, e19 k a, e20 k a, e21 k a, e22 k a, e23 k a, e24 k a, e25 k a, e27 k a, e28 k a, e29 k a, e30 k a, e31 k a, e32 k a, e33 k a, e34 k a, e35 k a, e37 k a, e38 k a, e39 k a, e40 k a, e41 k a, e42 k a, e45 k a, e46 k a, e47 k a, m0 k bb, m1 k bb, m2 k bb, m3 k bb, m4 k bb, m5 k bb, m6 k bb, m7 k bb, m8 k bb, m9 k bb, m10 k bb, m11 k bb, m12 k bb, m13 k bb, m14 k bb, m15 k bb, m16 k bb, m17 k bb] := hD
  refine W.widen (k := 66) (n := 21009) (Nat.le_of_ble_eq_true rfl) (Nat.le_of_ble_eq_true rfl) ?_
  rcases hu2 with ⟨g3, rfl⟩ | ⟨g3, rfl⟩
  · refine lv_aload_n hx hb dL_law_1403 rfl (lv_at hl 2 rfl) ?_
    refine lv_aload_n hx hb dL_law_1404 rfl (lv_at hl 0 rfl) ?_
    refine lv_iload_n hx hb dL_law_1405 rfl (lv_at hl 3 rfl) ?_
    refine lv_iconst (v := 1) hx hb dL_law_1406 (by decide) ?_
    refine lv_iadd hx hb dL_law_1407 ?_
    refine lv_topi (fun x4 ex4 => ?_)
    obtain rfl : x4 = 1 := ex4.trans (by decide)
    refine va_sld hx hb hX hbl hbA hS (vp_in_iff.mpr (by decide)) dL_law_1408 ?_
    refine W.eq (g2 := F0 m 1409 ls [.int (xs 1), .ref (bb 0), .int 0]) rfl ?_
    have htc := fun w h => hts0 w (hwL_X12_rules w h)
    refine pvi (C := RX12) (As := [.int (xs 1)]) (rest := [.int 0]) (wc := [m0 k bb, m1 k bb]) ⟨hx, hb, hml, hown, htc⟩ (c_X12_rules l D k bb (xs 1)) (cwV 1 htc gS_X12_rules rfl rfl rfl (by decide +kernel) ⟨Nat.le_of_ble_eq_true rfl, Nat.le_of_ble_eq_true rfl⟩) hP hK [43, 44] rfl 43 rfl rfl rfl rfl hl.1 rfl (Nat.le_of_ble_eq_true rfl) dL_law_1409 ⟨Nat.le_of_ble_eq_true rfl, Nat.le_of_ble_eq_true rfl⟩ (fun r5 hr5 => ?_)
    rcases hr5 with ⟨g6, rfl⟩ | ⟨g6, rfl⟩
    · refine lv_icmp_eq (tgt := 1770) hx hb dL_law_1412 (by decide) (fun _ => ?_) (fun h => absurd (by decide) h)
      exact law_tail C0 (Nat.le_refl 6) hS (lv_sub hl [0, 1, 2, 3] rfl) (Nat.le_of_ble_eq_true rfl) (Nat.le_of_ble_eq_true rfl)
    · exact False.elim (by (try simp only [i_lt, i_le, i_eq, Int32.toInt_toInt64, Int32.reduceToInt, Int64.reduceToInt] at g3 g6); omega)
  · refine lv_aload_n hx hb dL_law_1403 rfl (lv_at hl 2 rfl) ?_
    refine lv_aload_n hx hb dL_law_1404 rfl (lv_at hl 0 rfl) ?_
    refine lv_iload_n hx hb dL_law_1405 rfl (lv_at hl 3 rfl) ?_
    refine lv_iconst (v := 1) hx hb dL_law_1406 (by decide) ?_
    refine lv_iadd hx hb dL_law_1407 ?_
    refine lv_topi (fun x7 ex7 => ?_)
    obtain rfl : x7 = 1 := ex7.trans (by decide)
    refine va_sld hx hb hX hbl hbA hS (vp_in_iff.mpr (by decide)) dL_law_1408 ?_
    refine W.eq (g2 := F0 m 1409 ls [.int (xs 1), .ref (bb 0), .int (-2)]) rfl ?_
    have htc := fun w h => hts0 w (hwL_X12_rules w h)
    refine pvi (C := RX12) (As := [.int (xs 1)]) (rest := [.int (-2)]) (wc := [m0 k bb, m1 k bb]) ⟨hx, hb, hml, hown, htc⟩ (c_X12_rules l D k bb (xs 1)) (cwV 1 htc gS_X12_rules rfl rfl rfl (by decide +kernel) ⟨Nat.le_of_ble_eq_true rfl, Nat.le_of_ble_eq_true rfl⟩) hP hK [43, 44] rfl 43 rfl rfl rfl rfl hl.1 rfl (Nat.le_of_ble_eq_true rfl) dL_law_1409 ⟨Nat.le_of_ble_eq_true rfl, Nat.le_of_ble_eq_true rfl⟩ (fun r8 hr8 => ?_)
    rcases hr8 with ⟨g9, rfl⟩ | ⟨g9, rfl⟩
    · exact False.elim (by (try simp only [i_lt, i_le, i_eq, Int32.toInt_toInt64, Int32.reduceToInt, Int64.reduceToInt] at g3 g9); omega)
    · refine lv_icmp_eq (tgt := 1770) hx hb dL_law_1412 (by decide) (fun _ => ?_) (fun h => absurd (by decide) h)
      exact law_tail C0 (Nat.le_refl 6) hS (lv_sub hl [0, 1, 2, 3] rfl) (Nat.le_of_ble_eq_true rfl) (Nat.le_of_ble_eq_true rfl)
set_option maxHeartbeats 4000000 in
set_option maxRecDepth 100000 in
theorem law_38 {p : Program} {l : Launch} {e : Env} {s : State} {m : MethodId} {below : List Frame} {meth : Method} {c : Code} {b : Nat} {xs : Nat → Int32} {D : va_G} {k : Nat → ClassId} {a bb : Nat → Nat} (C0 : lw_At p s m meth c b 6 xs) (hN : NW s) (hK : va_K D vwCl (TYS k) s) {H : Heap} {locs : List Loc} (hP : va_P D vwCl (ALLW k a bb) H) (hD : va_D (fun q : Nat => s.heap.size ≤ q) (ALLW k a bb)) (hS : va_S (fun q : Nat => s.heap.size ≤ q) s.heap H locs) {ls : Array Slot} (hl : lv_has ls 4 [(0, .ref b), (1, .ref (a 0)), (2, .ref (bb 0)), (3, .int 0)]) : W p l e room_1 s m #[Value.ref b] below meth c H locs 66 21009 (lw_Z below #[Value.ref b] s) (F0 m 1417 ls []) := by
  obtain ⟨hx, hb, hr, hml, hown, hts0, hX, hbl, hlocks, hgv⟩ := id C0
  have hA : ∀ q : Nat, s.heap.size ≤ q → (fun q : Nat => s.heap.size ≤ q) q := fun _ h => h
  have hbA : ¬ (fun q : Nat => s.heap.size ≤ q) b := Nat.not_le.mpr hbl
  refine lv_aload_n hx hb dL_law_1417 rfl (lv_at hl 1 rfl) ?_
  refine lv_aload_n hx hb dL_law_1418 rfl (lv_at hl 0 rfl) ?_
  refine lv_iload_n hx hb dL_law_1419 rfl (lv_at hl 3 rfl) ?_
  refine lv_iconst (v := 1) hx hb dL_law_1420 (by decide) ?_
  refine lv_iadd hx hb dL_law_1421 ?_
  refine lv_topi (fun x1 ex1 => ?_)
  obtain rfl : x1 = 1 := ex1.trans (by decide)
  refine va_sld hx hb hX hbl hbA hS (vp_in_iff.mpr (by decide)) dL_law_1422 ?_
  refine W.eq (g2 := F0 m 1423 ls [.int (xs 1), .ref (a 0)]) rfl ?_
  refine lv_aload_n hx hb dL_law_1423 rfl (lv_at hl 0 rfl) ?_
  refine lv_iload_n hx hb dL_law_1424 rfl (lv_at hl 3 rfl) ?_
  refine lv_iconst (v := 2) hx hb dL_law_1425 (by decide) ?_
  refine lv_iadd hx hb dL_law_1426 ?_
  refine lv_topi (fun x2 ex2 => ?_)
  obtain rfl : x2 = 2 := ex2.trans (by decide)
  refine va_sld hx hb hX hbl hbA hS (vp_in_iff.mpr (by decide)) dL_law_1427 ?_
  refine W.eq (g2 := F0 m 1428 ls [.int (xs 2), .int (xs 1), .ref (a 0)]) rfl ?_
  refine lv_if_eq (tgt := 1435) hx hb dL_law_1428 (by decide) (fun c3 => ?_) (fun c3 => ?_)
  · refine lv_iconst (v := 0) hx hb dL_law_1435 (by decide) ?_
    have htc := fun w h => hts0 w (hwL_X11_held w h)
    refine pvi (C := RX11) (As := [.int (xs 1), .int 0]) (rest := []) (wc := [e0 k a, e26 k a, e36 k a]) ⟨hx, hb, hml, hown, htc⟩ (c_X11_held l D k a (xs 1) 0) (cwV 2 htc gS_X11_held rfl rfl rfl (by decide +kernel) ⟨Nat.le_of_ble_eq_true rfl, Nat.le_of_ble_eq_true rfl⟩) hP hK [0, 26, 36] rfl 0 rfl rfl rfl rfl hl.1 rfl (Nat.le_of_ble_eq_true rfl) dL_law_1436 ⟨Nat.le_of_ble_eq_true rfl, Nat.le_of_ble_eq_true rfl⟩ (fun r4 hr4 => ?_)
    rcases hr4 with ⟨g5, rfl⟩ | ⟨g5, rfl⟩
    · refine lv_aload_n hx hb dL_law_1439 rfl (lv_at hl 2 rfl) ?_
      refine lv_aload_n hx hb dL_law_1440 rfl (lv_at hl 0 rfl) ?_
      refine lv_iload_n hx hb dL_law_1441 rfl (lv_at hl 3 rfl) ?_
      refine lv_iconst (v := 1) hx hb dL_law_1442 (by decide) ?_
      refine lv_iadd hx hb dL_law_1443 ?_
      refine lv_topi (fun x6 ex6 => ?_)
      obtain rfl : x6 = 1 := ex6.trans (by decide)
      refine va_sld hx hb hX hbl hbA hS (vp_in_iff.mpr (by decide)) dL_law_1444 ?_
      refine W.eq (g2 := F0 m 1445 ls [.int (xs 1), .ref (bb 0), .int 0]) rfl ?_
      refine lv_aload_n hx hb dL_law_1445 rfl (lv_at hl 0 rfl) ?_
      refine lv_iload_n hx hb dL_law_1446 rfl (lv_at hl 3 rfl) ?_
      refine lv_iconst (v := 2) hx hb dL_law_1447 (by decide) ?_
      refine lv_iadd hx hb dL_law_1448 ?_
      refine lv_topi (fun x7 ex7 => ?_)
      obtain rfl : x7 = 2 := ex7.trans (by decide)
      refine va_sld hx hb hX hbl hbA hS (vp_in_iff.mpr (by decide)) dL_law_1449 ?_
      refine W.eq (g2 := F0 m 1450 ls [.int (xs 2), .int (xs 1), .ref (bb 0), .int 0]) rfl ?_
      refine lv_if_eq (tgt := 1457) hx hb dL_law_1450 (by decide) (fun _ => ?_) (fun h => absurd (c3) h)
      refine lv_iconst (v := 0) hx hb dL_law_1457 (by decide) ?_
      have htc := fun w h => hts0 w (hwL_X12_held w h)
      refine pvi (C := RX12) (As := [.int (xs 1), .int 0]) (rest := [.int 0]) (wc := [m0 k bb, m1 k bb]) ⟨hx, hb, hml, hown, htc⟩ (c_X12_held l D k bb (xs 1) 0) (cwV 2 htc gS_X12_held rfl rfl rfl (by decide +kernel) ⟨Nat.le_of_ble_eq_true rfl, Nat.le_of_ble_eq_true rfl⟩) hP hK [48, 49] rfl 48 rfl rfl rfl rfl hl.1 rfl (Nat.le_of_ble_eq_true rfl) dL_law_1458 ⟨Nat.le_of_ble_eq_true rfl, Nat.le_of_ble_eq_true rfl⟩ (fun r8 hr8 => ?_)
      rcases hr8 with ⟨g9, rfl⟩ | ⟨g9, rfl⟩
      · refine lv_icmp_eq (tgt := 1770) hx hb dL_law_1461 (by decide) (fun _ => ?_) (fun h => absurd (by decide) h)
        exact law_tail C0 (Nat.le_refl 6) hS (lv_sub hl [0, 1, 2, 3] rfl) (Nat.le_of_ble_eq_true rfl) (Nat.le_of_ble_eq_true rfl)
      · exact False.elim (by (try simp only [i_lt, i_le, i_eq, Int32.toInt_toInt64, Int32.reduceToInt, Int64.reduceToInt] at c3 g5 g9); omega)
    · refine lv_aload_n hx hb dL_law_1439 rfl (lv_at hl 2 rfl) ?_
      refine lv_aload_n hx hb dL_law_1440 rfl (lv_at hl 0 rfl) ?_
      refine lv_iload_n hx hb dL_law_1441 rfl (lv_at hl 3 rfl) ?_
      refine lv_iconst (v := 1) hx hb dL_law_1442 (by decide) ?_
      refine lv_iadd hx hb dL_law_1443 ?_
      refine lv_topi (fun x10 ex10 => ?_)
      obtain rfl : x10 = 1 := ex10.trans (by decide)
      refine va_sld hx hb hX hbl hbA hS (vp_in_iff.mpr (by decide)) dL_law_1444 ?_
      refine W.eq (g2 := F0 m 1445 ls [.int (xs 1), .ref (bb 0), .int (-2)]) rfl ?_
      refine lv_aload_n hx hb dL_law_1445 rfl (lv_at hl 0 rfl) ?_
      refine lv_iload_n hx hb dL_law_1446 rfl (lv_at hl 3 rfl) ?_
      refine lv_iconst (v := 2) hx hb dL_law_1447 (by decide) ?_
      refine lv_iadd hx hb dL_law_1448 ?_
      refine lv_topi (fun x11 ex11 => ?_)
      obtain rfl : x11 = 2 := ex11.trans (by decide)
      refine va_sld hx hb hX hbl hbA hS (vp_in_iff.mpr (by decide)) dL_law_1449 ?_
      refine W.eq (g2 := F0 m 1450 ls [.int (xs 2), .int (xs 1), .ref (bb 0), .int (-2)]) rfl ?_
      refine lv_if_eq (tgt := 1457) hx hb dL_law_1450 (by decide) (fun _ => ?_) (fun h => absurd (c3) h)
      refine lv_iconst (v := 0) hx hb dL_law_1457 (by decide) ?_
      have htc := fun w h => hts0 w (hwL_X12_held w h)
      refine pvi (C := RX12) (As := [.int (xs 1), .int 0]) (rest := [.int (-2)]) (wc := [m0 k bb, m1 k bb]) ⟨hx, hb, hml, hown, htc⟩ (c_X12_held l D k bb (xs 1) 0) (cwV 2 htc gS_X12_held rfl rfl rfl (by decide +kernel) ⟨Nat.le_of_ble_eq_true rfl, Nat.le_of_ble_eq_true rfl⟩) hP hK [48, 49] rfl 48 rfl rfl rfl rfl hl.1 rfl (Nat.le_of_ble_eq_true rfl) dL_law_1458 ⟨Nat.le_of_ble_eq_true rfl, Nat.le_of_ble_eq_true rfl⟩ (fun r12 hr12 => ?_)
      rcases hr12 with ⟨g13, rfl⟩ | ⟨g13, rfl⟩
      · exact False.elim (by (try simp only [i_lt, i_le, i_eq, Int32.toInt_toInt64, Int32.reduceToInt, Int64.reduceToInt] at c3 g5 g13); omega)
      · refine lv_icmp_eq (tgt := 1770) hx hb dL_law_1461 (by decide) (fun _ => ?_) (fun h => absurd (by decide) h)
        exact law_tail C0 (Nat.le_refl 6) hS (lv_sub hl [0, 1, 2, 3] rfl) (Nat.le_of_ble_eq_true rfl) (Nat.le_of_ble_eq_true rfl)
  · refine lv_iconst (v := 1) hx hb dL_law_1431 (by decide) ?_
    refine lv_goto (tgt := 1436) hx hb dL_law_1432 (by decide) ?_
    have htc := fun w h => hts0 w (hwL_X11_held w h)
    refine pvi (C := RX11) (As := [.int (xs 1), .int 1]) (rest := []) (wc := [e0 k a, e26 k a, e36 k a]) ⟨hx, hb, hml, hown, htc⟩ (c_X11_held l D k a (xs 1) 1) (cwV 2 htc gS_X11_held rfl rfl rfl (by decide +kernel) ⟨Nat.le_of_ble_eq_true rfl, Nat.le_of_ble_eq_true rfl⟩) hP hK [0, 26, 36] rfl 0 rfl rfl rfl rfl hl.1 rfl (Nat.le_of_ble_eq_true rfl) dL_law_1436 ⟨Nat.le_of_ble_eq_true rfl, Nat.le_of_ble_eq_true rfl⟩ (fun r14 hr14 => ?_)
    rcases hr14 with ⟨g15, rfl⟩ | ⟨g15, rfl⟩
    · refine lv_aload_n hx hb dL_law_1439 rfl (lv_at hl 2 rfl) ?_
      refine lv_aload_n hx hb dL_law_1440 rfl (lv_at hl 0 rfl) ?_
      refine lv_iload_n hx hb dL_law_1441 rfl (lv_at hl 3 rfl) ?_
      refine lv_iconst (v := 1) hx hb dL_law_1442 (by decide) ?_
      refine lv_iadd hx hb dL_law_1443 ?_
      refine lv_topi (fun x16 ex16 => ?_)
      obtain rfl : x16 = 1 := ex16.trans (by decide)
      refine va_sld hx hb hX hbl hbA hS (vp_in_iff.mpr (by decide)) dL_law_1444 ?_
      refine W.eq (g2 := F0 m 1445 ls [.int (xs 1), .ref (bb 0), .int 0]) rfl ?_
      refine lv_aload_n hx hb dL_law_1445 rfl (lv_at hl 0 rfl) ?_
      refine lv_iload_n hx hb dL_law_1446 rfl (lv_at hl 3 rfl) ?_
      refine lv_iconst (v := 2) hx hb dL_law_1447 (by decide) ?_
      refine lv_iadd hx hb dL_law_1448 ?_
      refine lv_topi (fun x17 ex17 => ?_)
      obtain rfl : x17 = 2 := ex17.trans (by decide)
      refine va_sld hx hb hX hbl hbA hS (vp_in_iff.mpr (by decide)) dL_law_1449 ?_
      refine W.eq (g2 := F0 m 1450 ls [.int (xs 2), .int (xs 1), .ref (bb 0), .int 0]) rfl ?_
      refine lv_if_eq (tgt := 1457) hx hb dL_law_1450 (by decide) (fun h => absurd h (c3)) (fun _ => ?_)
      refine lv_iconst (v := 1) hx hb dL_law_1453 (by decide) ?_
      refine lv_goto (tgt := 1458) hx hb dL_law_1454 (by decide) ?_
      have htc := fun w h => hts0 w (hwL_X12_held w h)
      refine pvi (C := RX12) (As := [.int (xs 1), .int 1]) (rest := [.int 0]) (wc := [m0 k bb, m1 k bb]) ⟨hx, hb, hml, hown, htc⟩ (c_X12_held l D k bb (xs 1) 1) (cwV 2 htc gS_X12_held rfl rfl rfl (by decide +kernel) ⟨Nat.le_of_ble_eq_true rfl, Nat.le_of_ble_eq_true rfl⟩) hP hK [48, 49] rfl 48 rfl rfl rfl rfl hl.1 rfl (Nat.le_of_ble_eq_true rfl) dL_law_1458 ⟨Nat.le_of_ble_eq_true rfl, Nat.le_of_ble_eq_true rfl⟩ (fun r18 hr18 => ?_)
      rcases hr18 with ⟨g19, rfl⟩ | ⟨g19, rfl⟩
      · refine lv_icmp_eq (tgt := 1770) hx hb dL_law_1461 (by decide) (fun _ => ?_) (fun h => absurd (by decide) h)
        exact law_tail C0 (Nat.le_refl 6) hS (lv_sub hl [0, 1, 2, 3] rfl) (Nat.le_of_ble_eq_true rfl) (Nat.le_of_ble_eq_true rfl)
      · exact False.elim (by (try simp only [i_lt, i_le, i_eq, Int32.toInt_toInt64, Int32.reduceToInt, Int64.reduceToInt] at c3 g15 g19); omega)
    · refine lv_aload_n hx hb dL_law_1439 rfl (lv_at hl 2 rfl) ?_
      refine lv_aload_n hx hb dL_law_1440 rfl (lv_at hl 0 rfl) ?_
      refine lv_iload_n hx hb dL_law_1441 rfl (lv_at hl 3 rfl) ?_
      refine lv_iconst (v := 1) hx hb dL_law_1442 (by decide) ?_
      refine lv_iadd hx hb dL_law_1443 ?_
      refine lv_topi (fun x20 ex20 => ?_)
      obtain rfl : x20 = 1 := ex20.trans (by decide)
      refine va_sld hx hb hX hbl hbA hS (vp_in_iff.mpr (by decide)) dL_law_1444 ?_
      refine W.eq (g2 := F0 m 1445 ls [.int (xs 1), .ref (bb 0), .int (-2)]) rfl ?_
      refine lv_aload_n hx hb dL_law_1445 rfl (lv_at hl 0 rfl) ?_
      refine lv_iload_n hx hb dL_law_1446 rfl (lv_at hl 3 rfl) ?_
      refine lv_iconst (v := 2) hx hb dL_law_1447 (by decide) ?_
      refine lv_iadd hx hb dL_law_1448 ?_
      refine lv_topi (fun x21 ex21 => ?_)
      obtain rfl : x21 = 2 := ex21.trans (by decide)
      refine va_sld hx hb hX hbl hbA hS (vp_in_iff.mpr (by decide)) dL_law_1449 ?_
      refine W.eq (g2 := F0 m 1450 ls [.int (xs 2), .int (xs 1), .ref (bb 0), .int (-2)]) rfl ?_
      refine lv_if_eq (tgt := 1457) hx hb dL_law_1450 (by decide) (fun h => absurd h (c3)) (fun _ => ?_)
      refine lv_iconst (v := 1) hx hb dL_law_1453 (by decide) ?_
      refine lv_goto (tgt := 1458) hx hb dL_law_1454 (by decide) ?_
      have htc := fun w h => hts0 w (hwL_X12_held w h)
      refine pvi (C := RX12) (As := [.int (xs 1), .int 1]) (rest := [.int (-2)]) (wc := [m0 k bb, m1 k bb]) ⟨hx, hb, hml, hown, htc⟩ (c_X12_held l D k bb (xs 1) 1) (cwV 2 htc gS_X12_held rfl rfl rfl (by decide +kernel) ⟨Nat.le_of_ble_eq_true rfl, Nat.le_of_ble_eq_true rfl⟩) hP hK [48, 49] rfl 48 rfl rfl rfl rfl hl.1 rfl (Nat.le_of_ble_eq_true rfl) dL_law_1458 ⟨Nat.le_of_ble_eq_true rfl, Nat.le_of_ble_eq_true rfl⟩ (fun r22 hr22 => ?_)
      rcases hr22 with ⟨g23, rfl⟩ | ⟨g23, rfl⟩
      · exact False.elim (by (try simp only [i_lt, i_le, i_eq, Int32.toInt_toInt64, Int32.reduceToInt, Int64.reduceToInt] at c3 g15 g23); omega)
      · refine lv_icmp_eq (tgt := 1770) hx hb dL_law_1461 (by decide) (fun _ => ?_) (fun h => absurd (by decide) h)
        exact law_tail C0 (Nat.le_refl 6) hS (lv_sub hl [0, 1, 2, 3] rfl) (Nat.le_of_ble_eq_true rfl) (Nat.le_of_ble_eq_true rfl)
set_option maxHeartbeats 4000000 in
set_option maxRecDepth 100000 in
theorem law_39 {p : Program} {l : Launch} {e : Env} {s : State} {m : MethodId} {below : List Frame} {meth : Method} {c : Code} {b : Nat} {xs : Nat → Int32} {D : va_G} {k : Nat → ClassId} {a bb : Nat → Nat} (C0 : lw_At p s m meth c b 6 xs) (hN : NW s) (hK : va_K D vwCl (TYS k) s) {H : Heap} {locs : List Loc} (hP : va_P D vwCl (ALLW k a bb) H) (hD : va_D (fun q : Nat => s.heap.size ≤ q) (ALLW k a bb)) (hS : va_S (fun q : Nat => s.heap.size ≤ q) s.heap H locs) {ls : Array Slot} (hl : lv_has ls 4 [(0, .ref b), (1, .ref (a 0)), (2, .ref (bb 0)), (3, .int 0)]) : W p l e room_1 s m #[Value.ref b] below meth c H locs 66 21009 (lw_Z below #[Value.ref b] s) (F0 m 1466 ls []) := by
  obtain ⟨hx, hb, hr, hml, hown, hts0, hX, hbl, hlocks, hgv⟩ := id C0
  have hA : ∀ q : Nat, s.heap.size ≤ q → (fun q : Nat => s.heap.size ≤ q) q := fun _ h => h
  have hbA : ¬ (fun q : Nat => s.heap.size ≤ q) b := Nat.not_le.mpr hbl
  refine lv_aload_n hx hb dL_law_1466 rfl (lv_at hl 1 rfl) ?_
  refine lv_aload_n hx hb dL_law_1467 rfl (lv_at hl 0 rfl) ?_
  refine lv_iload_n hx hb dL_law_1468 rfl (lv_at hl 3 rfl) ?_
  refine lv_iconst (v := 1) hx hb dL_law_1469 (by decide) ?_
  refine lv_iadd hx hb dL_law_1470 ?_
  refine lv_topi (fun x1 ex1 => ?_)
  obtain rfl : x1 = 1 := ex1.trans (by decide)
  refine va_sld hx hb hX hbl hbA hS (vp_in_iff.mpr (by decide)) dL_law_1471 ?_
  refine W.eq (g2 := F0 m 1472 ls [.int (xs 1), .ref (a 0)]) rfl ?_
  have htc := fun w h => hts0 w (hwL_X11_count w h)
  refine pvi (C := RX11) (As := [.int (xs 1)]) (rest := []) (wc := [e0 k a, e26 k a, e27 k a, e31 k a, e36 k a, e1 k a, e4 k a, e5 k a, e6 k a, e7 k a, e8 k a]) ⟨hx, hb, hml, hown, htc⟩ (c_X11_count l D k a (xs 1)) (cwV 1 htc gS_X11_count rfl rfl rfl (by decide +kernel) ⟨Nat.le_of_ble_eq_true rfl, Nat.le_of_ble_eq_true rfl⟩) hP hK [0, 26, 27, 31, 36, 1, 4, 5, 6, 7, 8] rfl 0 rfl rfl rfl rfl hl.1 rfl (Nat.le_of_ble_eq_true rfl) dL_law_1472 ⟨Nat.le_of_ble_eq_true rfl, Nat.le_of_ble_eq_true rfl⟩ (fun r2 hr2 => ?_)
  rcases hr2 with ⟨g3, rfl⟩ | ⟨g3, rfl⟩
  · refine lv_aload_n hx hb dL_law_1475 rfl (lv_at hl 2 rfl) ?_
    refine lv_aload_n hx hb dL_law_1476 rfl (lv_at hl 0 rfl) ?_
    refine lv_iload_n hx hb dL_law_1477 rfl (lv_at hl 3 rfl) ?_
    refine lv_iconst (v := 1) hx hb dL_law_1478 (by decide) ?_
    refine lv_iadd hx hb dL_law_1479 ?_
    refine lv_topi (fun x4 ex4 => ?_)
    obtain rfl : x4 = 1 := ex4.trans (by decide)
    refine va_sld hx hb hX hbl hbA hS (vp_in_iff.mpr (by decide)) dL_law_1480 ?_
    refine W.eq (g2 := F0 m 1481 ls [.int (xs 1), .ref (bb 0), .int 0]) rfl ?_
    have htc := fun w h => hts0 w (hwL_X12_count w h)
    refine pvi (C := RX12) (As := [.int (xs 1)]) (rest := [.int 0]) (wc := [m0 k bb, m1 k bb, m14 k bb]) ⟨hx, hb, hml, hown, htc⟩ (c_X12_count l D k bb (xs 1)) (cwV 1 htc gS_X12_count rfl rfl rfl (by decide +kernel) ⟨Nat.le_of_ble_eq_true rfl, Nat.le_of_ble_eq_true rfl⟩) hP hK [48, 49, 62] rfl 48 rfl rfl rfl rfl hl.1 rfl (Nat.le_of_ble_eq_true rfl) dL_law_1481 ⟨Nat.le_of_ble_eq_true rfl, Nat.le_of_ble_eq_true rfl⟩ (fun r5 hr5 => ?_)
    rcases hr5 with ⟨g6, rfl⟩ | ⟨g6, rfl⟩
    · refine lv_icmp_eq (tgt := 1770) hx hb dL_law_1484 (by decide) (fun _ => ?_) (fun h => absurd (by decide) h)
      exact law_tail C0 (Nat.le_refl 6) hS (lv_sub hl [0, 1, 2, 3] rfl) (Nat.le_of_ble_eq_true rfl) (Nat.le_of_ble_eq_true rfl)
    · exact False.elim (by (try simp only [i_lt, i_le, i_eq, Int32.toInt_toInt64, Int32.reduceToInt, Int64.reduceToInt] at g3 g6); omega)
  · refine lv_aload_n hx hb dL_law_1475 rfl (lv_at hl 2 rfl) ?_
    refine lv_aload_n hx hb dL_law_1476 rfl (lv_at hl 0 rfl) ?_
    refine lv_iload_n hx hb dL_law_1477 rfl (lv_at hl 3 rfl) ?_
    refine lv_iconst (v := 1) hx hb dL_law_1478 (by decide) ?_
    refine lv_iadd hx hb dL_law_1479 ?_
    refine lv_topi (fun x7 ex7 => ?_)
    obtain rfl : x7 = 1 := ex7.trans (by decide)
    refine va_sld hx hb hX hbl hbA hS (vp_in_iff.mpr (by decide)) dL_law_1480 ?_
    refine W.eq (g2 := F0 m 1481 ls [.int (xs 1), .ref (bb 0), .int (-1)]) rfl ?_
    have htc := fun w h => hts0 w (hwL_X12_count w h)
    refine pvi (C := RX12) (As := [.int (xs 1)]) (rest := [.int (-1)]) (wc := [m0 k bb, m1 k bb, m14 k bb]) ⟨hx, hb, hml, hown, htc⟩ (c_X12_count l D k bb (xs 1)) (cwV 1 htc gS_X12_count rfl rfl rfl (by decide +kernel) ⟨Nat.le_of_ble_eq_true rfl, Nat.le_of_ble_eq_true rfl⟩) hP hK [48, 49, 62] rfl 48 rfl rfl rfl rfl hl.1 rfl (Nat.le_of_ble_eq_true rfl) dL_law_1481 ⟨Nat.le_of_ble_eq_true rfl, Nat.le_of_ble_eq_true rfl⟩ (fun r8 hr8 => ?_)
    rcases hr8 with ⟨g9, rfl⟩ | ⟨g9, rfl⟩
    · exact False.elim (by (try simp only [i_lt, i_le, i_eq, Int32.toInt_toInt64, Int32.reduceToInt, Int64.reduceToInt] at g3 g9); omega)
    · refine lv_icmp_eq (tgt := 1770) hx hb dL_law_1484 (by decide) (fun _ => ?_) (fun h => absurd (by decide) h)
      exact law_tail C0 (Nat.le_refl 6) hS (lv_sub hl [0, 1, 2, 3] rfl) (Nat.le_of_ble_eq_true rfl) (Nat.le_of_ble_eq_true rfl)
set_option maxHeartbeats 4000000 in
set_option maxRecDepth 100000 in
theorem law_40 {p : Program} {l : Launch} {e : Env} {s : State} {m : MethodId} {below : List Frame} {meth : Method} {c : Code} {b : Nat} {xs : Nat → Int32} {D : va_G} {k : Nat → ClassId} {a bb : Nat → Nat} (C0 : lw_At p s m meth c b 6 xs) (hN : NW s) (hK : va_K D vwCl (TYS k) s) {H : Heap} {locs : List Loc} (hP : va_P D vwCl (ALLW k a bb) H) (hD : va_D (fun q : Nat => s.heap.size ≤ q) (ALLW k a bb)) (hS : va_S (fun q : Nat => s.heap.size ≤ q) s.heap H locs) {ls : Array Slot} (hl : lv_has ls 4 [(0, .ref b), (1, .ref (a 0)), (2, .ref (bb 0)), (3, .int 0)]) : W p l e room_1 s m #[Value.ref b] below meth c H locs 66 21009 (lw_Z below #[Value.ref b] s) (F0 m 1489 ls []) := by
  obtain ⟨hx, hb, hr, hml, hown, hts0, hX, hbl, hlocks, hgv⟩ := id C0
  have hA : ∀ q : Nat, s.heap.size ≤ q → (fun q : Nat => s.heap.size ≤ q) q := fun _ h => h
  have hbA : ¬ (fun q : Nat => s.heap.size ≤ q) b := Nat.not_le.mpr hbl
  refine lv_aload_n hx hb dL_law_1489 rfl (lv_at hl 1 rfl) ?_
  refine lv_aload_n hx hb dL_law_1490 rfl (lv_at hl 0 rfl) ?_
  refine lv_iload_n hx hb dL_law_1491 rfl (lv_at hl 3 rfl) ?_
  refine lv_iconst (v := 1) hx hb dL_law_1492 (by decide) ?_
  refine lv_iadd hx hb dL_law_1493 ?_
  refine lv_topi (fun x1 ex1 => ?_)
  obtain rfl : x1 = 1 := ex1.trans (by decide)
  refine va_sld hx hb hX hbl hbA hS (vp_in_iff.mpr (by decide)) dL_law_1494 ?_
  refine W.eq (g2 := F0 m 1495 ls [.int (xs 1), .ref (a 0)]) rfl ?_
  have htc := fun w h => hts0 w (hwL_X11_judge w h)
  refine pvi (C := RX11) (As := [.int (xs 1)]) (rest := []) (wc := [e0 k a, e4 k a, e5 k a, e6 k a, e7 k a, e8 k a]) ⟨hx, hb, hml, hown, htc⟩ (c_X11_judge l D k a (xs 1)) (cwV 1 htc gS_X11_judge rfl rfl rfl (by decide +kernel) ⟨Nat.le_of_ble_eq_true rfl, Nat.le_of_ble_eq_true rfl⟩) hP hK [0, 4, 5, 6, 7, 8] rfl 0 rfl rfl rfl rfl hl.1 rfl (Nat.le_of_ble_eq_true rfl) dL_law_1495 ⟨Nat.le_of_ble_eq_true rfl, Nat.le_of_ble_eq_true rfl⟩ (fun r2 hr2 => ?_)
  rcases hr2 with ⟨g3, rfl⟩ | ⟨g3, rfl⟩
  · refine lv_aload_n hx hb dL_law_1498 rfl (lv_at hl 2 rfl) ?_
    refine lv_aload_n hx hb dL_law_1499 rfl (lv_at hl 0 rfl) ?_
    refine lv_iload_n hx hb dL_law_1500 rfl (lv_at hl 3 rfl) ?_
    refine lv_iconst (v := 1) hx hb dL_law_1501 (by decide) ?_
    refine lv_iadd hx hb dL_law_1502 ?_
    refine lv_topi (fun x4 ex4 => ?_)
    obtain rfl : x4 = 1 := ex4.trans (by decide)
    refine va_sld hx hb hX hbl hbA hS (vp_in_iff.mpr (by decide)) dL_law_1503 ?_
    refine W.eq (g2 := F0 m 1504 ls [.int (xs 1), .ref (bb 0), .int (-6)]) rfl ?_
    have htc := fun w h => hts0 w (hwL_X12_judge w h)
    refine pvi (C := RX12) (As := [.int (xs 1)]) (rest := [.int (-6)]) (wc := [m0 k bb, m14 k bb]) ⟨hx, hb, hml, hown, htc⟩ (c_X12_judge l D k bb (xs 1)) (cwV 1 htc gS_X12_judge rfl rfl rfl (by decide +kernel) ⟨Nat.le_of_ble_eq_true rfl, Nat.le_of_ble_eq_true rfl⟩) hP hK [48, 62] rfl 48 rfl rfl rfl rfl hl.1 rfl (Nat.le_of_ble_eq_true rfl) dL_law_1504 ⟨Nat.le_of_ble_eq_true rfl, Nat.le_of_ble_eq_true rfl⟩ (fun r5 hr5 => ?_)
    rcases hr5 with ⟨g6, rfl⟩ | ⟨g6, rfl⟩
    · refine lv_icmp_eq (tgt := 1770) hx hb dL_law_1507 (by decide) (fun _ => ?_) (fun h => absurd (by decide) h)
      exact law_tail C0 (Nat.le_refl 6) hS (lv_sub hl [0, 1, 2, 3] rfl) (Nat.le_of_ble_eq_true rfl) (Nat.le_of_ble_eq_true rfl)
    · exact False.elim (by (try simp only [i_lt, i_le, i_eq, Int32.toInt_toInt64, Int32.reduceToInt, Int64.reduceToInt] at g3 g6); omega)
  · refine lv_aload_n hx hb dL_law_1498 rfl (lv_at hl 2 rfl) ?_
    refine lv_aload_n hx hb dL_law_1499 rfl (lv_at hl 0 rfl) ?_
    refine lv_iload_n hx hb dL_law_1500 rfl (lv_at hl 3 rfl) ?_
    refine lv_iconst (v := 1) hx hb dL_law_1501 (by decide) ?_
    refine lv_iadd hx hb dL_law_1502 ?_
    refine lv_topi (fun x7 ex7 => ?_)
    obtain rfl : x7 = 1 := ex7.trans (by decide)
    refine va_sld hx hb hX hbl hbA hS (vp_in_iff.mpr (by decide)) dL_law_1503 ?_
    refine W.eq (g2 := F0 m 1504 ls [.int (xs 1), .ref (bb 0), .int (-2)]) rfl ?_
    have htc := fun w h => hts0 w (hwL_X12_judge w h)
    refine pvi (C := RX12) (As := [.int (xs 1)]) (rest := [.int (-2)]) (wc := [m0 k bb, m14 k bb]) ⟨hx, hb, hml, hown, htc⟩ (c_X12_judge l D k bb (xs 1)) (cwV 1 htc gS_X12_judge rfl rfl rfl (by decide +kernel) ⟨Nat.le_of_ble_eq_true rfl, Nat.le_of_ble_eq_true rfl⟩) hP hK [48, 62] rfl 48 rfl rfl rfl rfl hl.1 rfl (Nat.le_of_ble_eq_true rfl) dL_law_1504 ⟨Nat.le_of_ble_eq_true rfl, Nat.le_of_ble_eq_true rfl⟩ (fun r8 hr8 => ?_)
    rcases hr8 with ⟨g9, rfl⟩ | ⟨g9, rfl⟩
    · exact False.elim (by (try simp only [i_lt, i_le, i_eq, Int32.toInt_toInt64, Int32.reduceToInt, Int64.reduceToInt] at g3 g9); omega)
    · refine lv_icmp_eq (tgt := 1770) hx hb dL_law_1507 (by decide) (fun _ => ?_) (fun h => absurd (by decide) h)
      exact law_tail C0 (Nat.le_refl 6) hS (lv_sub hl [0, 1, 2, 3] rfl) (Nat.le_of_ble_eq_true rfl) (Nat.le_of_ble_eq_true rfl)
set_option maxHeartbeats 4000000 in
set_option maxRecDepth 100000 in
theorem law_41 {p : Program} {l : Launch} {e : Env} {s : State} {m : MethodId} {below : List Frame} {meth : Method} {c : Code} {b : Nat} {xs : Nat → Int32} {D : va_G} {k : Nat → ClassId} {a bb : Nat → Nat} (C0 : lw_At p s m meth c b 6 xs) (hN : NW s) (hK : va_K D vwCl (TYS k) s) {H : Heap} {locs : List Loc} (hP : va_P D vwCl (ALLW k a bb) H) (hD : va_D (fun q : Nat => s.heap.size ≤ q) (ALLW k a bb)) (hS : va_S (fun q : Nat => s.heap.size ≤ q) s.heap H locs) {ls : Array Slot} (hl : lv_has ls 4 [(0, .ref b), (1, .ref (a 0)), (2, .ref (bb 0)), (3, .int 0)]) : W p l e room_1 s m #[Value.ref b] below meth c H locs 66 21009 (lw_Z below #[Value.ref b] s) (F0 m 1512 ls []) := by
  obtain ⟨hx, hb, hr, hml, hown, hts0, hX, hbl, hlocks, hgv⟩ := id C0
  have hA : ∀ q : Nat, s.heap.size ≤ q → (fun q : Nat => s.heap.size ≤ q) q := fun _ h => h
  have hbA : ¬ (fun q : Nat => s.heap.size ≤ q) b := Nat.not_le.mpr hbl
  refine lv_aload_n hx hb dL_law_1512 rfl (lv_at hl 1 rfl) ?_
  refine lv_aload_n hx hb dL_law_1513 rfl (lv_at hl 0 rfl) ?_
  refine lv_iload_n hx hb dL_law_1514 rfl (lv_at hl 3 rfl) ?_
  refine lv_iconst (v := 1) hx hb dL_law_1515 (by decide) ?_
  refine lv_iadd hx hb dL_law_1516 ?_
  refine lv_topi (fun x1 ex1 => ?_)
  obtain rfl : x1 = 1 := ex1.trans (by decide)
  refine va_sld hx hb hX hbl hbA hS (vp_in_iff.mpr (by decide)) dL_law_1517 ?_
  refine W.eq (g2 := F0 m 1518 ls [.int (xs 1), .ref (a 0)]) rfl ?_
  refine lv_aload_n hx hb dL_law_1518 rfl (lv_at hl 0 rfl) ?_
  refine lv_iload_n hx hb dL_law_1519 rfl (lv_at hl 3 rfl) ?_
  refine lv_iconst (v := 2) hx hb dL_law_1520 (by decide) ?_
  refine lv_iadd hx hb dL_law_1521 ?_
  refine lv_topi (fun x2 ex2 => ?_)
  obtain rfl : x2 = 2 := ex2.trans (by decide)
  refine va_sld hx hb hX hbl hbA hS (vp_in_iff.mpr (by decide)) dL_law_1522 ?_
  refine W.eq (g2 := F0 m 1523 ls [.int (xs 2), .int (xs 1), .ref (a 0)]) rfl ?_
  have htc := fun w h => hts0 w (hwL_X11_other w h)
  refine pvi (C := RX11) (As := [.int (xs 1), .int (xs 2)]) (rest := []) (wc := [e0 k a, e26 k a, e4 k a]) ⟨hx, hb, hml, hown, htc⟩ (c_X11_other l D k a (xs 1) (xs 2)) (cwV 2 htc gS_X11_other rfl rfl rfl (by decide +kernel) ⟨Nat.le_of_ble_eq_true rfl, Nat.le_of_ble_eq_true rfl⟩) hP hK [0, 26, 4] rfl 0 rfl rfl rfl rfl hl.1 rfl (Nat.le_of_ble_eq_true rfl) dL_law_1523 ⟨Nat.le_of_ble_eq_true rfl, Nat.le_of_ble_eq_true rfl⟩ (fun r3 hr3 => ?_)
  obtain rfl := hr3
  refine lv_aload_n hx hb dL_law_1526 rfl (lv_at hl 2 rfl) ?_
  refine lv_aload_n hx hb dL_law_1527 rfl (lv_at hl 0 rfl) ?_
  refine lv_iload_n hx hb dL_law_1528 rfl (lv_at hl 3 rfl) ?_
  refine lv_iconst (v := 1) hx hb dL_law_1529 (by decide) ?_
  refine lv_iadd hx hb dL_law_1530 ?_
  refine lv_topi (fun x4 ex4 => ?_)
  obtain rfl : x4 = 1 := ex4.trans (by decide)
  refine va_sld hx hb hX hbl hbA hS (vp_in_iff.mpr (by decide)) dL_law_1531 ?_
  refine W.eq (g2 := F0 m 1532 ls [.int (xs 1), .ref (bb 0), .int (-2)]) rfl ?_
  refine lv_aload_n hx hb dL_law_1532 rfl (lv_at hl 0 rfl) ?_
  refine lv_iload_n hx hb dL_law_1533 rfl (lv_at hl 3 rfl) ?_
  refine lv_iconst (v := 2) hx hb dL_law_1534 (by decide) ?_
  refine lv_iadd hx hb dL_law_1535 ?_
  refine lv_topi (fun x5 ex5 => ?_)
  obtain rfl : x5 = 2 := ex5.trans (by decide)
  refine va_sld hx hb hX hbl hbA hS (vp_in_iff.mpr (by decide)) dL_law_1536 ?_
  refine W.eq (g2 := F0 m 1537 ls [.int (xs 2), .int (xs 1), .ref (bb 0), .int (-2)]) rfl ?_
  have htc := fun w h => hts0 w (hwL_X12_other w h)
  refine pvi (C := RX12) (As := [.int (xs 1), .int (xs 2)]) (rest := [.int (-2)]) (wc := [m0 k bb, m1 k bb]) ⟨hx, hb, hml, hown, htc⟩ (c_X12_other l D k bb (xs 1) (xs 2)) (cwV 2 htc gS_X12_other rfl rfl rfl (by decide +kernel) ⟨Nat.le_of_ble_eq_true rfl, Nat.le_of_ble_eq_true rfl⟩) hP hK [48, 49] rfl 48 rfl rfl rfl rfl hl.1 rfl (Nat.le_of_ble_eq_true rfl) dL_law_1537 ⟨Nat.le_of_ble_eq_true rfl, Nat.le_of_ble_eq_true rfl⟩ (fun r6 hr6 => ?_)
  obtain rfl := hr6
  refine lv_icmp_eq (tgt := 1770) hx hb dL_law_1540 (by decide) (fun _ => ?_) (fun h => absurd (by decide) h)
  exact law_tail C0 (Nat.le_refl 6) hS (lv_sub hl [0, 1, 2, 3] rfl) (Nat.le_of_ble_eq_true rfl) (Nat.le_of_ble_eq_true rfl)
set_option maxHeartbeats 4000000 in
set_option maxRecDepth 100000 in
theorem law_42 {p : Program} {l : Launch} {e : Env} {s : State} {m : MethodId} {below : List Frame} {meth : Method} {c : Code} {b : Nat} {xs : Nat → Int32} {D : va_G} {k : Nat → ClassId} {a bb : Nat → Nat} (C0 : lw_At p s m meth c b 6 xs) (hN : NW s) (hK : va_K D vwCl (TYS k) s) {H : Heap} {locs : List Loc} (hP : va_P D vwCl (ALLW k a bb) H) (hD : va_D (fun q : Nat => s.heap.size ≤ q) (ALLW k a bb)) (hS : va_S (fun q : Nat => s.heap.size ≤ q) s.heap H locs) {ls : Array Slot} (hl : lv_has ls 4 [(0, .ref b), (1, .ref (a 0)), (2, .ref (bb 0)), (3, .int 0)]) : W p l e room_1 s m #[Value.ref b] below meth c H locs 66 21009 (lw_Z below #[Value.ref b] s) (F0 m 1545 ls []) := by
  obtain ⟨hx, hb, hr, hml, hown, hts0, hX, hbl, hlocks, hgv⟩ := id C0
  have hA : ∀ q : Nat, s.heap.size ≤ q → (fun q : Nat => s.heap.size ≤ q) q := fun _ h => h
  have hbA : ¬ (fun q : Nat => s.heap.size ≤ q) b := Nat.not_le.mpr hbl
  refine lv_aload_n hx hb dL_law_1545 rfl (lv_at hl 1 rfl) ?_
  refine lv_aload_n hx hb dL_law_1546 rfl (lv_at hl 0 rfl) ?_
  refine lv_iload_n hx hb dL_law_1547 rfl (lv_at hl 3 rfl) ?_
  refine lv_iconst (v := 1) hx hb dL_law_1548 (by decide) ?_
  refine lv_iadd hx hb dL_law_1549 ?_
  refine lv_topi (fun x1 ex1 => ?_)
  obtain rfl : x1 = 1 := ex1.trans (by decide)
  refine va_sld hx hb hX hbl hbA hS (vp_in_iff.mpr (by decide)) dL_law_1550 ?_
  refine W.eq (g2 := F0 m 1551 ls [.int (xs 1), .ref (a 0)]) rfl ?_
  have htc := fun w h => hts0 w (hwL_X11_keep w h)
  refine mvi (C := RX11) (As := [.int (xs 1)]) (rest := []) (wc := [e0 k a, e3 k a, e26 k a]) (wr := [e1 k a, e2 k a, e4 k a, e5 k a, e6 k a, e7 k a, e8 k a, e9 k a, e10 k a, e11 k a, e12 k a, e13 k a, e14 k a, e15 k a, e16 k a, e17 k a, e18 k a, e19 k a, e20 k a, e21 k a, e22 k a, e23 k a, e24 k a, e25 k a, e27 k a, e28 k a, e29 k a, e30 k a, e31 k a, e32 k a, e33 k a, e34 k a, e35 k a, e36 k a, e37 k a, e38 k a, e39 k a, e40 k a, e41 k a, e42 k a, e43 k a, e44 k a, e45 k a, e46 k a, e47 k a, m0 k bb, m1 k bb, m2 k bb, m3 k bb, m4 k bb, m5 k bb, m6 k bb, m7 k bb, m8 k bb, m9 k bb, m10 k bb, m11 k bb, m12 k bb, m13 k bb, m14 k bb, m15 k bb, m16 k bb, m17 k bb]) ⟨hx, hb, hml, hown, htc⟩ (fun sz => c_X11_keep l D k a (xs 1) sz) (cwV 1 htc gS_X11_keep rfl rfl rfl (by decide +kernel) ⟨Nat.le_of_ble_eq_true rfl, Nat.le_of_ble_eq_true rfl⟩) hP hK hD hN hS hA [0, 3, 26] [1, 2, 4, 5, 6, 7, 8, 9, 10, 11, 12, 13, 14, 15, 16, 17, 18, 19, 20, 21, 22, 23, 24, 25, 27, 28, 29, 30, 31, 32, 33, 34, 35, 36, 37, 38, 39, 40, 41, 42, 43, 44, 45, 46, 47, 48, 49, 50, 51, 52, 53, 54, 55, 56, 57, 58, 59, 60, 61, 62, 63, 64, 65] rfl rfl (by decide) rfl (by decide) (by decide) 0 rfl rfl rfl rfl hl.1 rfl (Nat.le_of_ble_eq_true rfl) dL_law_1551 ⟨Nat.le_of_ble_eq_true rfl, Nat.le_of_ble_eq_true rfl⟩ (fun ru2 u2 H locs hu2 hP hD hS => ?_)
  have hP : va_P D vwCl [e1 k a, e2 k a, e4 k a, e5 k a, e6 k a, e7 k a, e8 k a, e9 k a, e10 k a, e11 k a, e12 k a, e13 k a, e14 k a, e15 k a, e16 k a, e17 k a, e18 k a, e19 k a, e20 k a, e21 k a, e22 k a, e23 k a, e24 k a, e25 k a, e27 k a, e28 k a, e29 k a, e30 k a, e31 k a, e32 k a, e33 k a, e34 k a, e35 k a, e36 k a, e37 k a, e38 k a, e39 k a, e40 k a, e41 k a, e42 k a, e43 k a, e44 k a, e45 k a, e46 k a, e47 k a, m0 k bb, m1 k bb, m2 k bb, m3 k bb, m4 k bb, m5 k bb, m6 k bb, m7 k bb, m8 k bb, m9 k bb, m10 k bb, m11 k bb, m12 k bb, m13 k bb, m14 k bb, m15 k bb, m16 k bb, m17 k bb] H := hP
  have hD : va_D (fun q : Nat => s.heap.size ≤ q) [e1 k a, e2 k a, e4 k a, e5 k a, e6 k a, e7 k a, e8 k a, e9 k a, e10 k a, e11 k a, e12 k a, e13 k a, e14 k a, e15 k a, e16 k a, e17 k a, e18 k a, e19 k a, e20 k a, e21 k a, e22 k a, e23 k a, e24 k a, e25 k a, e27 k a, e28 k a, e29 k a, e30 k a, e31 k a, e32 k a, e33 k a, e34 k a, e35 k a, e36 k a, e37 k a, e38 k a, e39 k a, e40 k a, e41 k a, e42 k a, e43 k a, e44 k a, e45 k a, e46 k a, e47 k a, m0 k bb, m1 k bb, m2 k bb, m3 k bb, m4 k bb, m5 k bb, m6 k bb, m7 k bb, m8 k bb, m9 k bb, m10 k bb, m11 k bb, m12 k bb, m13 k bb, m14 k bb, m15 k bb, m16 k bb, m17 k bb] := hD
  refine W.widen (k := 66) (n := 21009) (Nat.le_of_ble_eq_true rfl) (Nat.le_of_ble_eq_true rfl) ?_
  rcases hu2 with ⟨g3, rfl⟩ | ⟨g3, rfl⟩
  · refine lv_aload_n hx hb dL_law_1554 rfl (lv_at hl 2 rfl) ?_
    refine lv_aload_n hx hb dL_law_1555 rfl (lv_at hl 0 rfl) ?_
    refine lv_iload_n hx hb dL_law_1556 rfl (lv_at hl 3 rfl) ?_
    refine lv_iconst (v := 1) hx hb dL_law_1557 (by decide) ?_
    refine lv_iadd hx hb dL_law_1558 ?_
    refine lv_topi (fun x4 ex4 => ?_)
    obtain rfl : x4 = 1 := ex4.trans (by decide)
    refine va_sld hx hb hX hbl hbA hS (vp_in_iff.mpr (by decide)) dL_law_1559 ?_
    refine W.eq (g2 := F0 m 1560 ls [.int (xs 1), .ref (bb 0), .int 0]) rfl ?_
    have htc := fun w h => hts0 w (hwL_X12_keep w h)
    refine mvi (C := RX12) (As := [.int (xs 1)]) (rest := [.int 0]) (wc := [m0 k bb, m1 k bb, m2 k bb, m3 k bb]) (wr := [e1 k a, e2 k a, e4 k a, e5 k a, e6 k a, e7 k a, e8 k a, e9 k a, e10 k a, e11 k a, e12 k a, e13 k a, e14 k a, e15 k a, e16 k a, e17 k a, e18 k a, e19 k a, e20 k a, e21 k a, e22 k a, e23 k a, e24 k a, e25 k a, e27 k a, e28 k a, e29 k a, e30 k a, e31 k a, e32 k a, e33 k a, e34 k a, e35 k a, e36 k a, e37 k a, e38 k a, e39 k a, e40 k a, e41 k a, e42 k a, e43 k a, e44 k a, e45 k a, e46 k a, e47 k a, m4 k bb, m5 k bb, m6 k bb, m7 k bb, m8 k bb, m9 k bb, m10 k bb, m11 k bb, m12 k bb, m13 k bb, m14 k bb, m15 k bb, m16 k bb, m17 k bb]) ⟨hx, hb, hml, hown, htc⟩ (fun sz => c_X12_keep l D k bb (xs 1) sz) (cwV 1 htc gS_X12_keep rfl rfl rfl (by decide +kernel) ⟨Nat.le_of_ble_eq_true rfl, Nat.le_of_ble_eq_true rfl⟩) hP hK hD hN hS hA [45, 46, 47, 48] [0, 1, 2, 3, 4, 5, 6, 7, 8, 9, 10, 11, 12, 13, 14, 15, 16, 17, 18, 19, 20, 21, 22, 23, 24, 25, 26, 27, 28, 29, 30, 31, 32, 33, 34, 35, 36, 37, 38, 39, 40, 41, 42, 43, 44, 49, 50, 51, 52, 53, 54, 55, 56, 57, 58, 59, 60, 61, 62] rfl rfl (by decide) rfl (by decide) (by decide) 45 rfl rfl rfl rfl hl.1 rfl (Nat.le_of_ble_eq_true rfl) dL_law_1560 ⟨Nat.le_of_ble_eq_true rfl, Nat.le_of_ble_eq_true rfl⟩ (fun ru5 u5 H locs hu5 hP hD hS => ?_)
    have hP : va_P D vwCl [e1 k a, e2 k a, e4 k a, e5 k a, e6 k a, e7 k a, e8 k a, e9 k a, e10 k a, e11 k a, e12 k a, e13 k a, e14 k a, e15 k a, e16 k a, e17 k a, e18 k a, e19 k a, e20 k a, e21 k a, e22 k a, e23 k a, e24 k a, e25 k a, e27 k a, e28 k a, e29 k a, e30 k a, e31 k a, e32 k a, e33 k a, e34 k a, e35 k a, e36 k a, e37 k a, e38 k a, e39 k a, e40 k a, e41 k a, e42 k a, e43 k a, e44 k a, e45 k a, e46 k a, e47 k a, m4 k bb, m5 k bb, m6 k bb, m7 k bb, m8 k bb, m9 k bb, m10 k bb, m11 k bb, m12 k bb, m13 k bb, m14 k bb, m15 k bb, m16 k bb, m17 k bb] H := hP
    have hD : va_D (fun q : Nat => s.heap.size ≤ q) [e1 k a, e2 k a, e4 k a, e5 k a, e6 k a, e7 k a, e8 k a, e9 k a, e10 k a, e11 k a, e12 k a, e13 k a, e14 k a, e15 k a, e16 k a, e17 k a, e18 k a, e19 k a, e20 k a, e21 k a, e22 k a, e23 k a, e24 k a, e25 k a, e27 k a, e28 k a, e29 k a, e30 k a, e31 k a, e32 k a, e33 k a, e34 k a, e35 k a, e36 k a, e37 k a, e38 k a, e39 k a, e40 k a, e41 k a, e42 k a, e43 k a, e44 k a, e45 k a, e46 k a, e47 k a, m4 k bb, m5 k bb, m6 k bb, m7 k bb, m8 k bb, m9 k bb, m10 k bb, m11 k bb, m12 k bb, m13 k bb, m14 k bb, m15 k bb, m16 k bb, m17 k bb] := hD
    refine W.widen (k := 66) (n := 21009) (Nat.le_of_ble_eq_true rfl) (Nat.le_of_ble_eq_true rfl) ?_
    rcases hu5 with ⟨g6, rfl⟩ | ⟨g6, rfl⟩
    · refine lv_icmp_eq (tgt := 1770) hx hb dL_law_1563 (by decide) (fun _ => ?_) (fun h => absurd (by decide) h)
      exact law_tail C0 (Nat.le_refl 6) hS (lv_sub hl [0, 1, 2, 3] rfl) (Nat.le_of_ble_eq_true rfl) (Nat.le_of_ble_eq_true rfl)
    · exact False.elim (by (try simp only [i_lt, i_le, i_eq, Int32.toInt_toInt64, Int32.reduceToInt, Int64.reduceToInt] at g3 g6); omega)
  · refine lv_aload_n hx hb dL_law_1554 rfl (lv_at hl 2 rfl) ?_
    refine lv_aload_n hx hb dL_law_1555 rfl (lv_at hl 0 rfl) ?_
    refine lv_iload_n hx hb dL_law_1556 rfl (lv_at hl 3 rfl) ?_
    refine lv_iconst (v := 1) hx hb dL_law_1557 (by decide) ?_
    refine lv_iadd hx hb dL_law_1558 ?_
    refine lv_topi (fun x7 ex7 => ?_)
    obtain rfl : x7 = 1 := ex7.trans (by decide)
    refine va_sld hx hb hX hbl hbA hS (vp_in_iff.mpr (by decide)) dL_law_1559 ?_
    refine W.eq (g2 := F0 m 1560 ls [.int (xs 1), .ref (bb 0), .int (-2)]) rfl ?_
    have htc := fun w h => hts0 w (hwL_X12_keep w h)
    refine mvi (C := RX12) (As := [.int (xs 1)]) (rest := [.int (-2)]) (wc := [m0 k bb, m1 k bb, m2 k bb, m3 k bb]) (wr := [e1 k a, e2 k a, e4 k a, e5 k a, e6 k a, e7 k a, e8 k a, e9 k a, e10 k a, e11 k a, e12 k a, e13 k a, e14 k a, e15 k a, e16 k a, e17 k a, e18 k a, e19 k a, e20 k a, e21 k a, e22 k a, e23 k a, e24 k a, e25 k a, e27 k a, e28 k a, e29 k a, e30 k a, e31 k a, e32 k a, e33 k a, e34 k a, e35 k a, e36 k a, e37 k a, e38 k a, e39 k a, e40 k a, e41 k a, e42 k a, e43 k a, e44 k a, e45 k a, e46 k a, e47 k a, m4 k bb, m5 k bb, m6 k bb, m7 k bb, m8 k bb, m9 k bb, m10 k bb, m11 k bb, m12 k bb, m13 k bb, m14 k bb, m15 k bb, m16 k bb, m17 k bb]) ⟨hx, hb, hml, hown, htc⟩ (fun sz => c_X12_keep l D k bb (xs 1) sz) (cwV 1 htc gS_X12_keep rfl rfl rfl (by decide +kernel) ⟨Nat.le_of_ble_eq_true rfl, Nat.le_of_ble_eq_true rfl⟩) hP hK hD hN hS hA [45, 46, 47, 48] [0, 1, 2, 3, 4, 5, 6, 7, 8, 9, 10, 11, 12, 13, 14, 15, 16, 17, 18, 19, 20, 21, 22, 23, 24, 25, 26, 27, 28, 29, 30, 31, 32, 33, 34, 35, 36, 37, 38, 39, 40, 41, 42, 43, 44, 49, 50, 51, 52, 53, 54, 55, 56, 57, 58, 59, 60, 61, 62] rfl rfl (by decide) rfl (by decide) (by decide) 45 rfl rfl rfl rfl hl.1 rfl (Nat.le_of_ble_eq_true rfl) dL_law_1560 ⟨Nat.le_of_ble_eq_true rfl, Nat.le_of_ble_eq_true rfl⟩ (fun ru8 u8 H locs hu8 hP hD hS => ?_)
    have hP : va_P D vwCl [e1 k a, e2 k a, e4 k a, e5 k a, e6 k a, e7 k a, e8 k a, e9 k a, e10 k a, e11 k a, e12 k a, e13 k a, e14 k a, e15 k a, e16 k a, e17 k a, e18 k a, e19 k a, e20 k a, e21 k a, e22 k a, e23 k a, e24 k a, e25 k a, e27 k a, e28 k a, e29 k a, e30 k a, e31 k a, e32 k a, e33 k a, e34 k a, e35 k a, e36 k a, e37 k a, e38 k a, e39 k a, e40 k a, e41 k a, e42 k a, e43 k a, e44 k a, e45 k a, e46 k a, e47 k a, m4 k bb, m5 k bb, m6 k bb, m7 k bb, m8 k bb, m9 k bb, m10 k bb, m11 k bb, m12 k bb, m13 k bb, m14 k bb, m15 k bb, m16 k bb, m17 k bb] H := hP
    have hD : va_D (fun q : Nat => s.heap.size ≤ q) [e1 k a, e2 k a, e4 k a, e5 k a, e6 k a, e7 k a, e8 k a, e9 k a, e10 k a, e11 k a, e12 k a, e13 k a, e14 k a, e15 k a, e16 k a, e17 k a, e18 k a, e19 k a, e20 k a, e21 k a, e22 k a, e23 k a, e24 k a, e25 k a, e27 k a, e28 k a, e29 k a, e30 k a, e31 k a, e32 k a, e33 k a, e34 k a, e35 k a, e36 k a, e37 k a, e38 k a, e39 k a, e40 k a, e41 k a, e42 k a, e43 k a, e44 k a, e45 k a, e46 k a, e47 k a, m4 k bb, m5 k bb, m6 k bb, m7 k bb, m8 k bb, m9 k bb, m10 k bb, m11 k bb, m12 k bb, m13 k bb, m14 k bb, m15 k bb, m16 k bb, m17 k bb] := hD
    refine W.widen (k := 66) (n := 21009) (Nat.le_of_ble_eq_true rfl) (Nat.le_of_ble_eq_true rfl) ?_
    rcases hu8 with ⟨g9, rfl⟩ | ⟨g9, rfl⟩
    · exact False.elim (by (try simp only [i_lt, i_le, i_eq, Int32.toInt_toInt64, Int32.reduceToInt, Int64.reduceToInt] at g3 g9); omega)
    · refine lv_icmp_eq (tgt := 1770) hx hb dL_law_1563 (by decide) (fun _ => ?_) (fun h => absurd (by decide) h)
      exact law_tail C0 (Nat.le_refl 6) hS (lv_sub hl [0, 1, 2, 3] rfl) (Nat.le_of_ble_eq_true rfl) (Nat.le_of_ble_eq_true rfl)
set_option maxHeartbeats 4000000 in
set_option maxRecDepth 100000 in
theorem law_43 {p : Program} {l : Launch} {e : Env} {s : State} {m : MethodId} {below : List Frame} {meth : Method} {c : Code} {b : Nat} {xs : Nat → Int32} {D : va_G} {k : Nat → ClassId} {a bb : Nat → Nat} (C0 : lw_At p s m meth c b 6 xs) (hN : NW s) (hK : va_K D vwCl (TYS k) s) {H : Heap} {locs : List Loc} (hP : va_P D vwCl (ALLW k a bb) H) (hD : va_D (fun q : Nat => s.heap.size ≤ q) (ALLW k a bb)) (hS : va_S (fun q : Nat => s.heap.size ≤ q) s.heap H locs) {ls : Array Slot} (hl : lv_has ls 4 [(0, .ref b), (1, .ref (a 0)), (2, .ref (bb 0)), (3, .int 0)]) : W p l e room_1 s m #[Value.ref b] below meth c H locs 66 21009 (lw_Z below #[Value.ref b] s) (F0 m 1568 ls []) := by
  obtain ⟨hx, hb, hr, hml, hown, hts0, hX, hbl, hlocks, hgv⟩ := id C0
  have hA : ∀ q : Nat, s.heap.size ≤ q → (fun q : Nat => s.heap.size ≤ q) q := fun _ h => h
  have hbA : ¬ (fun q : Nat => s.heap.size ≤ q) b := Nat.not_le.mpr hbl
  refine lv_aload_n hx hb dL_law_1568 rfl (lv_at hl 1 rfl) ?_
  refine lv_aload_n hx hb dL_law_1569 rfl (lv_at hl 0 rfl) ?_
  refine lv_iload_n hx hb dL_law_1570 rfl (lv_at hl 3 rfl) ?_
  refine lv_iconst (v := 1) hx hb dL_law_1571 (by decide) ?_
  refine lv_iadd hx hb dL_law_1572 ?_
  refine lv_topi (fun x1 ex1 => ?_)
  obtain rfl : x1 = 1 := ex1.trans (by decide)
  refine va_sld hx hb hX hbl hbA hS (vp_in_iff.mpr (by decide)) dL_law_1573 ?_
  refine W.eq (g2 := F0 m 1574 ls [.int (xs 1), .ref (a 0)]) rfl ?_
  have htc := fun w h => hts0 w (hwL_X11_back w h)
  refine pvi (C := RX11) (As := [.int (xs 1)]) (rest := []) (wc := [e0 k a, e3 k a]) ⟨hx, hb, hml, hown, htc⟩ (c_X11_back l D k a (xs 1)) (cwV 1 htc gS_X11_back rfl rfl rfl (by decide +kernel) ⟨Nat.le_of_ble_eq_true rfl, Nat.le_of_ble_eq_true rfl⟩) hP hK [0, 3] rfl 0 rfl rfl rfl rfl hl.1 rfl (Nat.le_of_ble_eq_true rfl) dL_law_1574 ⟨Nat.le_of_ble_eq_true rfl, Nat.le_of_ble_eq_true rfl⟩ (fun r2 hr2 => ?_)
  rcases hr2 with ⟨g3, rfl⟩ | ⟨g3, rfl⟩
  · refine lv_aload_n hx hb dL_law_1577 rfl (lv_at hl 2 rfl) ?_
    refine lv_aload_n hx hb dL_law_1578 rfl (lv_at hl 0 rfl) ?_
    refine lv_iload_n hx hb dL_law_1579 rfl (lv_at hl 3 rfl) ?_
    refine lv_iconst (v := 1) hx hb dL_law_1580 (by decide) ?_
    refine lv_iadd hx hb dL_law_1581 ?_
    refine lv_topi (fun x4 ex4 => ?_)
    obtain rfl : x4 = 1 := ex4.trans (by decide)
    refine va_sld hx hb hX hbl hbA hS (vp_in_iff.mpr (by decide)) dL_law_1582 ?_
    refine W.eq (g2 := F0 m 1583 ls [.int (xs 1), .ref (bb 0), .int (-6)]) rfl ?_
    have htc := fun w h => hts0 w (hwL_X12_back w h)
    refine pvi (C := RX12) (As := [.int (xs 1)]) (rest := [.int (-6)]) (wc := [m0 k bb, m3 k bb]) ⟨hx, hb, hml, hown, htc⟩ (c_X12_back l D k bb (xs 1)) (cwV 1 htc gS_X12_back rfl rfl rfl (by decide +kernel) ⟨Nat.le_of_ble_eq_true rfl, Nat.le_of_ble_eq_true rfl⟩) hP hK [48, 51] rfl 48 rfl rfl rfl rfl hl.1 rfl (Nat.le_of_ble_eq_true rfl) dL_law_1583 ⟨Nat.le_of_ble_eq_true rfl, Nat.le_of_ble_eq_true rfl⟩ (fun r5 hr5 => ?_)
    rcases hr5 with ⟨g6, rfl⟩ | ⟨g6, rfl⟩
    · refine lv_icmp_eq (tgt := 1770) hx hb dL_law_1586 (by decide) (fun _ => ?_) (fun h => absurd (by decide) h)
      exact law_tail C0 (Nat.le_refl 6) hS (lv_sub hl [0, 1, 2, 3] rfl) (Nat.le_of_ble_eq_true rfl) (Nat.le_of_ble_eq_true rfl)
    · exact False.elim (by (try simp only [i_lt, i_le, i_eq, Int32.toInt_toInt64, Int32.reduceToInt, Int64.reduceToInt] at g3 g6); omega)
  · refine lv_aload_n hx hb dL_law_1577 rfl (lv_at hl 2 rfl) ?_
    refine lv_aload_n hx hb dL_law_1578 rfl (lv_at hl 0 rfl) ?_
    refine lv_iload_n hx hb dL_law_1579 rfl (lv_at hl 3 rfl) ?_
    refine lv_iconst (v := 1) hx hb dL_law_1580 (by decide) ?_
    refine lv_iadd hx hb dL_law_1581 ?_
    refine lv_topi (fun x7 ex7 => ?_)
    obtain rfl : x7 = 1 := ex7.trans (by decide)
    refine va_sld hx hb hX hbl hbA hS (vp_in_iff.mpr (by decide)) dL_law_1582 ?_
    refine W.eq (g2 := F0 m 1583 ls [.int (xs 1), .ref (bb 0), .int (-2)]) rfl ?_
    have htc := fun w h => hts0 w (hwL_X12_back w h)
    refine pvi (C := RX12) (As := [.int (xs 1)]) (rest := [.int (-2)]) (wc := [m0 k bb, m3 k bb]) ⟨hx, hb, hml, hown, htc⟩ (c_X12_back l D k bb (xs 1)) (cwV 1 htc gS_X12_back rfl rfl rfl (by decide +kernel) ⟨Nat.le_of_ble_eq_true rfl, Nat.le_of_ble_eq_true rfl⟩) hP hK [48, 51] rfl 48 rfl rfl rfl rfl hl.1 rfl (Nat.le_of_ble_eq_true rfl) dL_law_1583 ⟨Nat.le_of_ble_eq_true rfl, Nat.le_of_ble_eq_true rfl⟩ (fun r8 hr8 => ?_)
    rcases hr8 with ⟨g9, rfl⟩ | ⟨g9, rfl⟩
    · exact False.elim (by (try simp only [i_lt, i_le, i_eq, Int32.toInt_toInt64, Int32.reduceToInt, Int64.reduceToInt] at g3 g9); omega)
    · refine lv_icmp_eq (tgt := 1770) hx hb dL_law_1586 (by decide) (fun _ => ?_) (fun h => absurd (by decide) h)
      exact law_tail C0 (Nat.le_refl 6) hS (lv_sub hl [0, 1, 2, 3] rfl) (Nat.le_of_ble_eq_true rfl) (Nat.le_of_ble_eq_true rfl)
set_option maxHeartbeats 4000000 in
set_option maxRecDepth 100000 in
theorem law_44 {p : Program} {l : Launch} {e : Env} {s : State} {m : MethodId} {below : List Frame} {meth : Method} {c : Code} {b : Nat} {xs : Nat → Int32} {D : va_G} {k : Nat → ClassId} {a bb : Nat → Nat} (C0 : lw_At p s m meth c b 6 xs) (hN : NW s) (hK : va_K D vwCl (TYS k) s) {H : Heap} {locs : List Loc} (hP : va_P D vwCl (ALLW k a bb) H) (hD : va_D (fun q : Nat => s.heap.size ≤ q) (ALLW k a bb)) (hS : va_S (fun q : Nat => s.heap.size ≤ q) s.heap H locs) {ls : Array Slot} (hl : lv_has ls 4 [(0, .ref b), (1, .ref (a 0)), (2, .ref (bb 0)), (3, .int 0)]) : W p l e room_1 s m #[Value.ref b] below meth c H locs 66 21009 (lw_Z below #[Value.ref b] s) (F0 m 1591 ls []) := by
  obtain ⟨hx, hb, hr, hml, hown, hts0, hX, hbl, hlocks, hgv⟩ := id C0
  have hA : ∀ q : Nat, s.heap.size ≤ q → (fun q : Nat => s.heap.size ≤ q) q := fun _ h => h
  have hbA : ¬ (fun q : Nat => s.heap.size ≤ q) b := Nat.not_le.mpr hbl
  refine lv_aload_n hx hb dL_law_1591 rfl (lv_at hl 1 rfl) ?_
  refine lv_aload_n hx hb dL_law_1592 rfl (lv_at hl 0 rfl) ?_
  refine lv_iload_n hx hb dL_law_1593 rfl (lv_at hl 3 rfl) ?_
  refine lv_iconst (v := 1) hx hb dL_law_1594 (by decide) ?_
  refine lv_iadd hx hb dL_law_1595 ?_
  refine lv_topi (fun x1 ex1 => ?_)
  obtain rfl : x1 = 1 := ex1.trans (by decide)
  refine va_sld hx hb hX hbl hbA hS (vp_in_iff.mpr (by decide)) dL_law_1596 ?_
  refine W.eq (g2 := F0 m 1597 ls [.int (xs 1), .ref (a 0)]) rfl ?_
  refine lv_aload_n hx hb dL_law_1597 rfl (lv_at hl 0 rfl) ?_
  refine lv_iload_n hx hb dL_law_1598 rfl (lv_at hl 3 rfl) ?_
  refine lv_iconst (v := 2) hx hb dL_law_1599 (by decide) ?_
  refine lv_iadd hx hb dL_law_1600 ?_
  refine lv_topi (fun x2 ex2 => ?_)
  obtain rfl : x2 = 2 := ex2.trans (by decide)
  refine va_sld hx hb hX hbl hbA hS (vp_in_iff.mpr (by decide)) dL_law_1601 ?_
  refine W.eq (g2 := F0 m 1602 ls [.int (xs 2), .int (xs 1), .ref (a 0)]) rfl ?_
  refine lv_aload_n hx hb dL_law_1602 rfl (lv_at hl 0 rfl) ?_
  refine lv_iload_n hx hb dL_law_1603 rfl (lv_at hl 3 rfl) ?_
  refine lv_iconst (v := 3) hx hb dL_law_1604 (by decide) ?_
  refine lv_iadd hx hb dL_law_1605 ?_
  refine lv_topi (fun x3 ex3 => ?_)
  obtain rfl : x3 = 3 := ex3.trans (by decide)
  refine va_sld hx hb hX hbl hbA hS (vp_in_iff.mpr (by decide)) dL_law_1606 ?_
  refine W.eq (g2 := F0 m 1607 ls [.int (xs 3), .int (xs 2), .int (xs 1), .ref (a 0)]) rfl ?_
  have htc := fun w h => hts0 w (hwL_X11_row w h)
  refine mvi (C := RX11) (As := [.int (xs 1), .int (xs 2), .int (xs 3)]) (rest := []) (wc := [e0 k a, e4 k a, e5 k a, e6 k a, e7 k a, e8 k a, e9 k a, e10 k a, e11 k a, e12 k a]) (wr := [e1 k a, e2 k a, e3 k a, e13 k a, e14 k a, e15 k a, e16 k a, e17 k a, e18 k a, e19 k a, e20 k a, e21 k a, e22 k a, e23 k a, e24 k a, e25 k a, e26 k a, e27 k a, e28 k a, e29 k a, e30 k a, e31 k a, e32 k a, e33 k a, e34 k a, e35 k a, e36 k a, e37 k a, e38 k a, e39 k a, e40 k a, e41 k a, e42 k a, e43 k a, e44 k a, e45 k a, e46 k a, e47 k a, m0 k bb, m1 k bb, m2 k bb, m3 k bb, m4 k bb, m5 k bb, m6 k bb, m7 k bb, m8 k bb, m9 k bb, m10 k bb, m11 k bb, m12 k bb, m13 k bb, m14 k bb, m15 k bb, m16 k bb, m17 k bb]) ⟨hx, hb, hml, hown, htc⟩ (fun sz => c_X11_row l D k a (xs 1) (xs 2) (xs 3) sz) (cwV 3 htc gS_X11_row rfl rfl rfl (by decide +kernel) ⟨Nat.le_of_ble_eq_true rfl, Nat.le_of_ble_eq_true rfl⟩) hP hK hD hN hS hA [0, 4, 5, 6, 7, 8, 9, 10, 11, 12] [1, 2, 3, 13, 14, 15, 16, 17, 18, 19, 20, 21, 22, 23, 24, 25, 26, 27, 28, 29, 30, 31, 32, 33, 34, 35, 36, 37, 38, 39, 40, 41, 42, 43, 44, 45, 46, 47, 48, 49, 50, 51, 52, 53, 54, 55, 56, 57, 58, 59, 60, 61, 62, 63, 64, 65] rfl rfl (by decide) rfl (by decide) (by decide) 0 rfl rfl rfl rfl hl.1 rfl (Nat.le_of_ble_eq_true rfl) dL_law_1607 ⟨Nat.le_of_ble_eq_true rfl, Nat.le_of_ble_eq_true rfl⟩ (fun ru4 u4 H locs hu4 hP hD hS => ?_)
  have hP : va_P D vwCl [e1 k a, e2 k a, e3 k a, e13 k a, e14 k a, e15 k a, e16 k a, e17 k a, e18 k a, e19 k a, e20 k a, e21 k a, e22 k a, e23 k a, e24 k a, e25 k a, e26 k a, e27 k a, e28 k a, e29 k a, e30 k a, e31 k a, e32 k a, e33 k a, e34 k a, e35 k a, e36 k a, e37 k a, e38 k a, e39 k a, e40 k a, e41 k a, e42 k a, e43 k a, e44 k a, e45 k a, e46 k a, e47 k a, m0 k bb, m1 k bb, m2 k bb, m3 k bb, m4 k bb, m5 k bb, m6 k bb, m7 k bb, m8 k bb, m9 k bb, m10 k bb, m11 k bb, m12 k bb, m13 k bb, m14 k bb, m15 k bb, m16 k bb, m17 k bb] H := hP
  have hD : va_D (fun q : Nat => s.heap.size ≤ q) [e1 k a, e2 k a, e3 k a, e13 k a, e14 k a, e15 k a, e16 k a, e17 k a, e18 k a, e19 k a, e20 k a, e21 k a, e22 k a, e23 k a, e24 k a, e25 k a, e26 k a, e27 k a, e28 k a, e29 k a, e30 k a, e31 k a, e32 k a, e33 k a, e34 k a, e35 k a, e36 k a, e37 k a, e38 k a, e39 k a, e40 k a, e41 k a, e42 k a, e43 k a, e44 k a, e45 k a, e46 k a, e47 k a, m0 k bb, m1 k bb, m2 k bb, m3 k bb, m4 k bb, m5 k bb, m6 k bb, m7 k bb, m8 k bb, m9 k bb, m10 k bb, m11 k bb, m12 k bb, m13 k bb, m14 k bb, m15 k bb, m16 k bb, m17 k bb] := hD
  refine W.widen (k := 66) (n := 21009) (Nat.le_of_ble_eq_true rfl) (Nat.le_of_ble_eq_true rfl) ?_
  rcases hu4 with ⟨g5, zg5, rfl⟩ | ⟨g5, zg5, rfl⟩ | ⟨g5, rfl⟩
  · refine lv_aload_n hx hb dL_law_1610 rfl (lv_at hl 2 rfl) ?_
    refine lv_aload_n hx hb dL_law_1611 rfl (lv_at hl 0 rfl) ?_
    refine lv_iload_n hx hb dL_law_1612 rfl (lv_at hl 3 rfl) ?_
    refine lv_iconst (v := 1) hx hb dL_law_1613 (by decide) ?_
    refine lv_iadd hx hb dL_law_1614 ?_
    refine lv_topi (fun x6 ex6 => ?_)
    obtain rfl : x6 = 1 := ex6.trans (by decide)
    refine va_sld hx hb hX hbl hbA hS (vp_in_iff.mpr (by decide)) dL_law_1615 ?_
    refine W.eq (g2 := F0 m 1616 ls [.int (xs 1), .ref (bb 0), .int 0]) rfl ?_
    refine lv_aload_n hx hb dL_law_1616 rfl (lv_at hl 0 rfl) ?_
    refine lv_iload_n hx hb dL_law_1617 rfl (lv_at hl 3 rfl) ?_
    refine lv_iconst (v := 2) hx hb dL_law_1618 (by decide) ?_
    refine lv_iadd hx hb dL_law_1619 ?_
    refine lv_topi (fun x7 ex7 => ?_)
    obtain rfl : x7 = 2 := ex7.trans (by decide)
    refine va_sld hx hb hX hbl hbA hS (vp_in_iff.mpr (by decide)) dL_law_1620 ?_
    refine W.eq (g2 := F0 m 1621 ls [.int (xs 2), .int (xs 1), .ref (bb 0), .int 0]) rfl ?_
    refine lv_aload_n hx hb dL_law_1621 rfl (lv_at hl 0 rfl) ?_
    refine lv_iload_n hx hb dL_law_1622 rfl (lv_at hl 3 rfl) ?_
    refine lv_iconst (v := 3) hx hb dL_law_1623 (by decide) ?_
    refine lv_iadd hx hb dL_law_1624 ?_
    refine lv_topi (fun x8 ex8 => ?_)
    obtain rfl : x8 = 3 := ex8.trans (by decide)
    refine va_sld hx hb hX hbl hbA hS (vp_in_iff.mpr (by decide)) dL_law_1625 ?_
    refine W.eq (g2 := F0 m 1626 ls [.int (xs 3), .int (xs 2), .int (xs 1), .ref (bb 0), .int 0]) rfl ?_
    have htc := fun w h => hts0 w (hwL_X12_row w h)
    refine mvi (C := RX12) (As := [.int (xs 1), .int (xs 2), .int (xs 3)]) (rest := [.int 0]) (wc := [m0 k bb, m14 k bb, m15 k bb, m16 k bb]) (wr := [e1 k a, e2 k a, e3 k a, e13 k a, e14 k a, e15 k a, e16 k a, e17 k a, e18 k a, e19 k a, e20 k a, e21 k a, e22 k a, e23 k a, e24 k a, e25 k a, e26 k a, e27 k a, e28 k a, e29 k a, e30 k a, e31 k a, e32 k a, e33 k a, e34 k a, e35 k a, e36 k a, e37 k a, e38 k a, e39 k a, e40 k a, e41 k a, e42 k a, e43 k a, e44 k a, e45 k a, e46 k a, e47 k a, m1 k bb, m2 k bb, m3 k bb, m4 k bb, m5 k bb, m6 k bb, m7 k bb, m8 k bb, m9 k bb, m10 k bb, m11 k bb, m12 k bb, m13 k bb, m17 k bb]) ⟨hx, hb, hml, hown, htc⟩ (fun sz => c_X12_row l D k bb (xs 1) (xs 2) (xs 3) sz) (cwV 3 htc gS_X12_row rfl rfl rfl (by decide +kernel) ⟨Nat.le_of_ble_eq_true rfl, Nat.le_of_ble_eq_true rfl⟩) hP hK hD hN hS hA [38, 52, 53, 54] [0, 1, 2, 3, 4, 5, 6, 7, 8, 9, 10, 11, 12, 13, 14, 15, 16, 17, 18, 19, 20, 21, 22, 23, 24, 25, 26, 27, 28, 29, 30, 31, 32, 33, 34, 35, 36, 37, 39, 40, 41, 42, 43, 44, 45, 46, 47, 48, 49, 50, 51, 55] rfl rfl (by decide) rfl (by decide) (by decide) 38 rfl rfl rfl rfl hl.1 rfl (Nat.le_of_ble_eq_true rfl) dL_law_1626 ⟨Nat.le_of_ble_eq_true rfl, Nat.le_of_ble_eq_true rfl⟩ (fun ru9 u9 H locs hu9 hP hD hS => ?_)
    have hP : va_P D vwCl [e1 k a, e2 k a, e3 k a, e13 k a, e14 k a, e15 k a, e16 k a, e17 k a, e18 k a, e19 k a, e20 k a, e21 k a, e22 k a, e23 k a, e24 k a, e25 k a, e26 k a, e27 k a, e28 k a, e29 k a, e30 k a, e31 k a, e32 k a, e33 k a, e34 k a, e35 k a, e36 k a, e37 k a, e38 k a, e39 k a, e40 k a, e41 k a, e42 k a, e43 k a, e44 k a, e45 k a, e46 k a, e47 k a, m1 k bb, m2 k bb, m3 k bb, m4 k bb, m5 k bb, m6 k bb, m7 k bb, m8 k bb, m9 k bb, m10 k bb, m11 k bb, m12 k bb, m13 k bb, m17 k bb] H := hP
    have hD : va_D (fun q : Nat => s.heap.size ≤ q) [e1 k a, e2 k a, e3 k a, e13 k a, e14 k a, e15 k a, e16 k a, e17 k a, e18 k a, e19 k a, e20 k a, e21 k a, e22 k a, e23 k a, e24 k a, e25 k a, e26 k a, e27 k a, e28 k a, e29 k a, e30 k a, e31 k a, e32 k a, e33 k a, e34 k a, e35 k a, e36 k a, e37 k a, e38 k a, e39 k a, e40 k a, e41 k a, e42 k a, e43 k a, e44 k a, e45 k a, e46 k a, e47 k a, m1 k bb, m2 k bb, m3 k bb, m4 k bb, m5 k bb, m6 k bb, m7 k bb, m8 k bb, m9 k bb, m10 k bb, m11 k bb, m12 k bb, m13 k bb, m17 k bb] := hD
    refine W.widen (k := 66) (n := 21009) (Nat.le_of_ble_eq_true rfl) (Nat.le_of_ble_eq_true rfl) ?_
    rcases hu9 with ⟨g10, zg10, rfl⟩ | ⟨g10, zg10, rfl⟩ | ⟨g10, rfl⟩
    · refine lv_icmp_eq (tgt := 1770) hx hb dL_law_1629 (by decide) (fun _ => ?_) (fun h => absurd (by decide) h)
      exact law_tail C0 (Nat.le_refl 6) hS (lv_sub hl [0, 1, 2, 3] rfl) (Nat.le_of_ble_eq_true rfl) (Nat.le_of_ble_eq_true rfl)
    · exact False.elim (by (try simp only [i_lt, i_le, i_eq, Int32.toInt_toInt64, Int32.reduceToInt, Int64.reduceToInt] at g5 zg5 g10 zg10); omega)
    · exact False.elim (by (try simp only [i_lt, i_le, i_eq, Int32.toInt_toInt64, Int32.reduceToInt, Int64.reduceToInt] at g5 zg5 g10); omega)
  · refine lv_aload_n hx hb dL_law_1610 rfl (lv_at hl 2 rfl) ?_
    refine lv_aload_n hx hb dL_law_1611 rfl (lv_at hl 0 rfl) ?_
    refine lv_iload_n hx hb dL_law_1612 rfl (lv_at hl 3 rfl) ?_
    refine lv_iconst (v := 1) hx hb dL_law_1613 (by decide) ?_
    refine lv_iadd hx hb dL_law_1614 ?_
    refine lv_topi (fun x11 ex11 => ?_)
    obtain rfl : x11 = 1 := ex11.trans (by decide)
    refine va_sld hx hb hX hbl hbA hS (vp_in_iff.mpr (by decide)) dL_law_1615 ?_
    refine W.eq (g2 := F0 m 1616 ls [.int (xs 1), .ref (bb 0), .int (-3)]) rfl ?_
    refine lv_aload_n hx hb dL_law_1616 rfl (lv_at hl 0 rfl) ?_
    refine lv_iload_n hx hb dL_law_1617 rfl (lv_at hl 3 rfl) ?_
    refine lv_iconst (v := 2) hx hb dL_law_1618 (by decide) ?_
    refine lv_iadd hx hb dL_law_1619 ?_
    refine lv_topi (fun x12 ex12 => ?_)
    obtain rfl : x12 = 2 := ex12.trans (by decide)
    refine va_sld hx hb hX hbl hbA hS (vp_in_iff.mpr (by decide)) dL_law_1620 ?_
    refine W.eq (g2 := F0 m 1621 ls [.int (xs 2), .int (xs 1), .ref (bb 0), .int (-3)]) rfl ?_
    refine lv_aload_n hx hb dL_law_1621 rfl (lv_at hl 0 rfl) ?_
    refine lv_iload_n hx hb dL_law_1622 rfl (lv_at hl 3 rfl) ?_
    refine lv_iconst (v := 3) hx hb dL_law_1623 (by decide) ?_
    refine lv_iadd hx hb dL_law_1624 ?_
    refine lv_topi (fun x13 ex13 => ?_)
    obtain rfl : x13 = 3 := ex13.trans (by decide)
    refine va_sld hx hb hX hbl hbA hS (vp_in_iff.mpr (by decide)) dL_law_1625 ?_
    refine W.eq (g2 := F0 m 1626 ls [.int (xs 3), .int (xs 2), .int (xs 1), .ref (bb 0), .int (-3)]) rfl ?_
    have htc := fun w h => hts0 w (hwL_X12_row w h)
    refine mvi (C := RX12) (As := [.int (xs 1), .int (xs 2), .int (xs 3)]) (rest := [.int (-3)]) (wc := [m0 k bb, m14 k bb, m15 k bb, m16 k bb]) (wr := [e1 k a, e2 k a, e3 k a, e13 k a, e14 k a, e15 k a, e16 k a, e17 k a, e18 k a, e19 k a, e20 k a, e21 k a, e22 k a, e23 k a, e24 k a, e25 k a, e26 k a, e27 k a, e28 k a, e29 k a, e30 k a, e31 k a, e32 k a, e33 k a, e34 k a, e35 k a, e36 k a, e37 k a, e38 k a, e39 k a, e40 k a, e41 k a, e42 k a, e43 k a, e44 k a, e45 k a, e46 k a, e47 k a, m1 k bb, m2 k bb, m3 k bb, m4 k bb, m5 k bb, m6 k bb, m7 k bb, m8 k bb, m9 k bb, m10 k bb, m11 k bb, m12 k bb, m13 k bb, m17 k bb]) ⟨hx, hb, hml, hown, htc⟩ (fun sz => c_X12_row l D k bb (xs 1) (xs 2) (xs 3) sz) (cwV 3 htc gS_X12_row rfl rfl rfl (by decide +kernel) ⟨Nat.le_of_ble_eq_true rfl, Nat.le_of_ble_eq_true rfl⟩) hP hK hD hN hS hA [38, 52, 53, 54] [0, 1, 2, 3, 4, 5, 6, 7, 8, 9, 10, 11, 12, 13, 14, 15, 16, 17, 18, 19, 20, 21, 22, 23, 24, 25, 26, 27, 28, 29, 30, 31, 32, 33, 34, 35, 36, 37, 39, 40, 41, 42, 43, 44, 45, 46, 47, 48, 49, 50, 51, 55] rfl rfl (by decide) rfl (by decide) (by decide) 38 rfl rfl rfl rfl hl.1 rfl (Nat.le_of_ble_eq_true rfl) dL_law_1626 ⟨Nat.le_of_ble_eq_true rfl, Nat.le_of_ble_eq_true rfl⟩ (fun ru14 u14 H locs hu14 hP hD hS => ?_)
    have hP : va_P D vwCl [e1 k a, e2 k a, e3 k a, e13 k a, e14 k a, e15 k a, e16 k a, e17 k a, e18 k a, e19 k a, e20 k a, e21 k a, e22 k a, e23 k a, e24 k a, e25 k a, e26 k a, e27 k a, e28 k a, e29 k a, e30 k a, e31 k a, e32 k a, e33 k a, e34 k a, e35 k a, e36 k a, e37 k a, e38 k a, e39 k a, e40 k a, e41 k a, e42 k a, e43 k a, e44 k a, e45 k a, e46 k a, e47 k a, m1 k bb, m2 k bb, m3 k bb, m4 k bb, m5 k bb, m6 k bb, m7 k bb, m8 k bb, m9 k bb, m10 k bb, m11 k bb, m12 k bb, m13 k bb, m17 k bb] H := hP
    have hD : va_D (fun q : Nat => s.heap.size ≤ q) [e1 k a, e2 k a, e3 k a, e13 k a, e14 k a, e15 k a, e16 k a, e17 k a, e18 k a, e19 k a, e20 k a, e21 k a, e22 k a, e23 k a, e24 k a, e25 k a, e26 k a, e27 k a, e28 k a, e29 k a, e30 k a, e31 k a, e32 k a, e33 k a, e34 k a, e35 k a, e36 k a, e37 k a, e38 k a, e39 k a, e40 k a, e41 k a, e42 k a, e43 k a, e44 k a, e45 k a, e46 k a, e47 k a, m1 k bb, m2 k bb, m3 k bb, m4 k bb, m5 k bb, m6 k bb, m7 k bb, m8 k bb, m9 k bb, m10 k bb, m11 k bb, m12 k bb, m13 k bb, m17 k bb] := hD
    refine W.widen (k := 66) (n := 21009) (Nat.le_of_ble_eq_true rfl) (Nat.le_of_ble_eq_true rfl) ?_
    rcases hu14 with ⟨g15, zg15, rfl⟩ | ⟨g15, zg15, rfl⟩ | ⟨g15, rfl⟩
    · exact False.elim (by (try simp only [i_lt, i_le, i_eq, Int32.toInt_toInt64, Int32.reduceToInt, Int64.reduceToInt] at g5 zg5 g15 zg15); omega)
    · refine lv_icmp_eq (tgt := 1770) hx hb dL_law_1629 (by decide) (fun _ => ?_) (fun h => absurd (by decide) h)
      exact law_tail C0 (Nat.le_refl 6) hS (lv_sub hl [0, 1, 2, 3] rfl) (Nat.le_of_ble_eq_true rfl) (Nat.le_of_ble_eq_true rfl)
    · exact False.elim (by (try simp only [i_lt, i_le, i_eq, Int32.toInt_toInt64, Int32.reduceToInt, Int64.reduceToInt] at g5 zg5 g15); omega)
  · refine lv_aload_n hx hb dL_law_1610 rfl (lv_at hl 2 rfl) ?_
    refine lv_aload_n hx hb dL_law_1611 rfl (lv_at hl 0 rfl) ?_
    refine lv_iload_n hx hb dL_law_1612 rfl (lv_at hl 3 rfl) ?_
    refine lv_iconst (v := 1) hx hb dL_law_1613 (by decide) ?_
    refine lv_iadd hx hb dL_law_1614 ?_
    refine lv_topi (fun x16 ex16 => ?_)
    obtain rfl : x16 = 1 := ex16.trans (by decide)
    refine va_sld hx hb hX hbl hbA hS (vp_in_iff.mpr (by decide)) dL_law_1615 ?_
    refine W.eq (g2 := F0 m 1616 ls [.int (xs 1), .ref (bb 0), .int (-2)]) rfl ?_
    refine lv_aload_n hx hb dL_law_1616 rfl (lv_at hl 0 rfl) ?_
    refine lv_iload_n hx hb dL_law_1617 rfl (lv_at hl 3 rfl) ?_
    refine lv_iconst (v := 2) hx hb dL_law_1618 (by decide) ?_
    refine lv_iadd hx hb dL_law_1619 ?_
    refine lv_topi (fun x17 ex17 => ?_)
    obtain rfl : x17 = 2 := ex17.trans (by decide)
    refine va_sld hx hb hX hbl hbA hS (vp_in_iff.mpr (by decide)) dL_law_1620 ?_
    refine W.eq (g2 := F0 m 1621 ls [.int (xs 2), .int (xs 1), .ref (bb 0), .int (-2)]) rfl ?_
    refine lv_aload_n hx hb dL_law_1621 rfl (lv_at hl 0 rfl) ?_
    refine lv_iload_n hx hb dL_law_1622 rfl (lv_at hl 3 rfl) ?_
    refine lv_iconst (v := 3) hx hb dL_law_1623 (by decide) ?_
    refine lv_iadd hx hb dL_law_1624 ?_
    refine lv_topi (fun x18 ex18 => ?_)
    obtain rfl : x18 = 3 := ex18.trans (by decide)
    refine va_sld hx hb hX hbl hbA hS (vp_in_iff.mpr (by decide)) dL_law_1625 ?_
    refine W.eq (g2 := F0 m 1626 ls [.int (xs 3), .int (xs 2), .int (xs 1), .ref (bb 0), .int (-2)]) rfl ?_
    have htc := fun w h => hts0 w (hwL_X12_row w h)
    refine mvi (C := RX12) (As := [.int (xs 1), .int (xs 2), .int (xs 3)]) (rest := [.int (-2)]) (wc := [m0 k bb, m14 k bb, m15 k bb, m16 k bb]) (wr := [e1 k a, e2 k a, e3 k a, e13 k a, e14 k a, e15 k a, e16 k a, e17 k a, e18 k a, e19 k a, e20 k a, e21 k a, e22 k a, e23 k a, e24 k a, e25 k a, e26 k a, e27 k a, e28 k a, e29 k a, e30 k a, e31 k a, e32 k a, e33 k a, e34 k a, e35 k a, e36 k a, e37 k a, e38 k a, e39 k a, e40 k a, e41 k a, e42 k a, e43 k a, e44 k a, e45 k a, e46 k a, e47 k a, m1 k bb, m2 k bb, m3 k bb, m4 k bb, m5 k bb, m6 k bb, m7 k bb, m8 k bb, m9 k bb, m10 k bb, m11 k bb, m12 k bb, m13 k bb, m17 k bb]) ⟨hx, hb, hml, hown, htc⟩ (fun sz => c_X12_row l D k bb (xs 1) (xs 2) (xs 3) sz) (cwV 3 htc gS_X12_row rfl rfl rfl (by decide +kernel) ⟨Nat.le_of_ble_eq_true rfl, Nat.le_of_ble_eq_true rfl⟩) hP hK hD hN hS hA [38, 52, 53, 54] [0, 1, 2, 3, 4, 5, 6, 7, 8, 9, 10, 11, 12, 13, 14, 15, 16, 17, 18, 19, 20, 21, 22, 23, 24, 25, 26, 27, 28, 29, 30, 31, 32, 33, 34, 35, 36, 37, 39, 40, 41, 42, 43, 44, 45, 46, 47, 48, 49, 50, 51, 55] rfl rfl (by decide) rfl (by decide) (by decide) 38 rfl rfl rfl rfl hl.1 rfl (Nat.le_of_ble_eq_true rfl) dL_law_1626 ⟨Nat.le_of_ble_eq_true rfl, Nat.le_of_ble_eq_true rfl⟩ (fun ru19 u19 H locs hu19 hP hD hS => ?_)
    have hP : va_P D vwCl [e1 k a, e2 k a, e3 k a, e13 k a, e14 k a, e15 k a, e16 k a, e17 k a, e18 k a, e19 k a, e20 k a, e21 k a, e22 k a, e23 k a, e24 k a, e25 k a, e26 k a, e27 k a, e28 k a, e29 k a, e30 k a, e31 k a, e32 k a, e33 k a, e34 k a, e35 k a, e36 k a, e37 k a, e38 k a, e39 k a, e40 k a, e41 k a, e42 k a, e43 k a, e44 k a, e45 k a, e46 k a, e47 k a, m1 k bb, m2 k bb, m3 k bb, m4 k bb, m5 k bb, m6 k bb, m7 k bb, m8 k bb, m9 k bb, m10 k bb, m11 k bb, m12 k bb, m13 k bb, m17 k bb] H := hP
    have hD : va_D (fun q : Nat => s.heap.size ≤ q) [e1 k a, e2 k a, e3 k a, e13 k a, e14 k a, e15 k a, e16 k a, e17 k a, e18 k a, e19 k a, e20 k a, e21 k a, e22 k a, e23 k a, e24 k a, e25 k a, e26 k a, e27 k a, e28 k a, e29 k a, e30 k a, e31 k a, e32 k a, e33 k a, e34 k a, e35 k a, e36 k a, e37 k a, e38 k a, e39 k a, e40 k a, e41 k a, e42 k a, e43 k a, e44 k a, e45 k a, e46 k a, e47 k a, m1 k bb, m2 k bb, m3 k bb, m4 k bb, m5 k bb, m6 k bb, m7 k bb, m8 k bb, m9 k bb, m10 k bb, m11 k bb, m12 k bb, m13 k bb, m17 k bb] := hD
    refine W.widen (k := 66) (n := 21009) (Nat.le_of_ble_eq_true rfl) (Nat.le_of_ble_eq_true rfl) ?_
    rcases hu19 with ⟨g20, zg20, rfl⟩ | ⟨g20, zg20, rfl⟩ | ⟨g20, rfl⟩
    · exact False.elim (by (try simp only [i_lt, i_le, i_eq, Int32.toInt_toInt64, Int32.reduceToInt, Int64.reduceToInt] at g5 g20 zg20); omega)
    · exact False.elim (by (try simp only [i_lt, i_le, i_eq, Int32.toInt_toInt64, Int32.reduceToInt, Int64.reduceToInt] at g5 g20 zg20); omega)
    · refine lv_icmp_eq (tgt := 1770) hx hb dL_law_1629 (by decide) (fun _ => ?_) (fun h => absurd (by decide) h)
      exact law_tail C0 (Nat.le_refl 6) hS (lv_sub hl [0, 1, 2, 3] rfl) (Nat.le_of_ble_eq_true rfl) (Nat.le_of_ble_eq_true rfl)
set_option maxHeartbeats 4000000 in
set_option maxRecDepth 100000 in
theorem law_45 {p : Program} {l : Launch} {e : Env} {s : State} {m : MethodId} {below : List Frame} {meth : Method} {c : Code} {b : Nat} {xs : Nat → Int32} {D : va_G} {k : Nat → ClassId} {a bb : Nat → Nat} (C0 : lw_At p s m meth c b 6 xs) (hN : NW s) (hK : va_K D vwCl (TYS k) s) {H : Heap} {locs : List Loc} (hP : va_P D vwCl (ALLW k a bb) H) (hD : va_D (fun q : Nat => s.heap.size ≤ q) (ALLW k a bb)) (hS : va_S (fun q : Nat => s.heap.size ≤ q) s.heap H locs) {ls : Array Slot} (hl : lv_has ls 4 [(0, .ref b), (1, .ref (a 0)), (2, .ref (bb 0)), (3, .int 0)]) : W p l e room_1 s m #[Value.ref b] below meth c H locs 66 21009 (lw_Z below #[Value.ref b] s) (F0 m 1634 ls []) := by
  obtain ⟨hx, hb, hr, hml, hown, hts0, hX, hbl, hlocks, hgv⟩ := id C0
  have hA : ∀ q : Nat, s.heap.size ≤ q → (fun q : Nat => s.heap.size ≤ q) q := fun _ h => h
  have hbA : ¬ (fun q : Nat => s.heap.size ≤ q) b := Nat.not_le.mpr hbl
  refine lv_aload_n hx hb dL_law_1634 rfl (lv_at hl 1 rfl) ?_
  refine lv_aload_n hx hb dL_law_1635 rfl (lv_at hl 0 rfl) ?_
  refine lv_iload_n hx hb dL_law_1636 rfl (lv_at hl 3 rfl) ?_
  refine lv_iconst (v := 1) hx hb dL_law_1637 (by decide) ?_
  refine lv_iadd hx hb dL_law_1638 ?_
  refine lv_topi (fun x1 ex1 => ?_)
  obtain rfl : x1 = 1 := ex1.trans (by decide)
  refine va_sld hx hb hX hbl hbA hS (vp_in_iff.mpr (by decide)) dL_law_1639 ?_
  refine W.eq (g2 := F0 m 1640 ls [.int (xs 1), .ref (a 0)]) rfl ?_
  refine lv_aload_n hx hb dL_law_1640 rfl (lv_at hl 0 rfl) ?_
  refine lv_iload_n hx hb dL_law_1641 rfl (lv_at hl 3 rfl) ?_
  refine lv_iconst (v := 2) hx hb dL_law_1642 (by decide) ?_
  refine lv_iadd hx hb dL_law_1643 ?_
  refine lv_topi (fun x2 ex2 => ?_)
  obtain rfl : x2 = 2 := ex2.trans (by decide)
  refine va_sld hx hb hX hbl hbA hS (vp_in_iff.mpr (by decide)) dL_law_1644 ?_
  refine W.eq (g2 := F0 m 1645 ls [.int (xs 2), .int (xs 1), .ref (a 0)]) rfl ?_
  refine lv_aload_n hx hb dL_law_1645 rfl (lv_at hl 0 rfl) ?_
  refine lv_iload_n hx hb dL_law_1646 rfl (lv_at hl 3 rfl) ?_
  refine lv_iconst (v := 3) hx hb dL_law_1647 (by decide) ?_
  refine lv_iadd hx hb dL_law_1648 ?_
  refine lv_topi (fun x3 ex3 => ?_)
  obtain rfl : x3 = 3 := ex3.trans (by decide)
  refine va_sld hx hb hX hbl hbA hS (vp_in_iff.mpr (by decide)) dL_law_1649 ?_
  refine W.eq (g2 := F0 m 1650 ls [.int (xs 3), .int (xs 2), .int (xs 1), .ref (a 0)]) rfl ?_
  refine lv_i2l hx hb dL_law_1650 rfl ?_
  refine lv_bipush (v := 32) hx hb dL_law_1651 (by decide) ?_
  refine lv_lshl hx hb dL_law_1653 rfl ?_
  refine lv_topl (fun x4 ex4 => ?_)
  refine lv_aload_n hx hb dL_law_1654 rfl (lv_at hl 0 rfl) ?_
  refine lv_iload_n hx hb dL_law_1655 rfl (lv_at hl 3 rfl) ?_
  refine lv_iconst (v := 4) hx hb dL_law_1656 (by decide) ?_
  refine lv_iadd hx hb dL_law_1657 ?_
  refine lv_topi (fun x5 ex5 => ?_)
  obtain rfl : x5 = 4 := ex5.trans (by decide)
  refine va_sld hx hb hX hbl hbA hS (vp_in_iff.mpr (by decide)) dL_law_1658 ?_
  refine W.eq (g2 := F0 m 1659 ls [.int (xs 4), .long x4, .int (xs 2), .int (xs 1), .ref (a 0)]) rfl ?_
  refine lv_i2l hx hb dL_law_1659 rfl ?_
  refine lv_ldc2 (own := RL) (v := 4294967295) hx hb hown (hts0 (.constantLong RL 200 (4294967295)) (wsL_law_r1_in _ (List.mem_of_getElem? (i := 6) rfl))) dL_law_1660 ?_
  refine lv_land hx hb dL_law_1663 ?_
  refine lv_topl (fun x6 ex6 => ?_)
  refine lv_lor hx hb dL_law_1664 ?_
  refine lv_topl (fun x7 ex7 => ?_)
  have htc := fun w h => hts0 w (hwL_X11_write w h)
  refine pvi (C := RX11) (As := [.int (xs 1), .int (xs 2), .long x7]) (rest := []) (wc := [e0 k a, e4 k a, e5 k a, e6 k a, e7 k a, e8 k a]) ⟨hx, hb, hml, hown, htc⟩ (c_X11_write l D k a (xs 1) (xs 2) x7) (cwV 3 htc gS_X11_write rfl rfl rfl (by decide +kernel) ⟨Nat.le_of_ble_eq_true rfl, Nat.le_of_ble_eq_true rfl⟩) hP hK [0, 4, 5, 6, 7, 8] rfl 0 rfl rfl rfl rfl hl.1 rfl (Nat.le_of_ble_eq_true rfl) dL_law_1665 ⟨Nat.le_of_ble_eq_true rfl, Nat.le_of_ble_eq_true rfl⟩ (fun r8 hr8 => ?_)
  rcases hr8 with ⟨g9, rfl⟩ | ⟨g9, rfl⟩
  · refine lv_aload_n hx hb dL_law_1668 rfl (lv_at hl 2 rfl) ?_
    refine lv_aload_n hx hb dL_law_1669 rfl (lv_at hl 0 rfl) ?_
    refine lv_iload_n hx hb dL_law_1670 rfl (lv_at hl 3 rfl) ?_
    refine lv_iconst (v := 1) hx hb dL_law_1671 (by decide) ?_
    refine lv_iadd hx hb dL_law_1672 ?_
    refine lv_topi (fun x10 ex10 => ?_)
    obtain rfl : x10 = 1 := ex10.trans (by decide)
    refine va_sld hx hb hX hbl hbA hS (vp_in_iff.mpr (by decide)) dL_law_1673 ?_
    refine W.eq (g2 := F0 m 1674 ls [.int (xs 1), .ref (bb 0), .int (-6)]) rfl ?_
    refine lv_aload_n hx hb dL_law_1674 rfl (lv_at hl 0 rfl) ?_
    refine lv_iload_n hx hb dL_law_1675 rfl (lv_at hl 3 rfl) ?_
    refine lv_iconst (v := 2) hx hb dL_law_1676 (by decide) ?_
    refine lv_iadd hx hb dL_law_1677 ?_
    refine lv_topi (fun x11 ex11 => ?_)
    obtain rfl : x11 = 2 := ex11.trans (by decide)
    refine va_sld hx hb hX hbl hbA hS (vp_in_iff.mpr (by decide)) dL_law_1678 ?_
    refine W.eq (g2 := F0 m 1679 ls [.int (xs 2), .int (xs 1), .ref (bb 0), .int (-6)]) rfl ?_
    refine lv_aload_n hx hb dL_law_1679 rfl (lv_at hl 0 rfl) ?_
    refine lv_iload_n hx hb dL_law_1680 rfl (lv_at hl 3 rfl) ?_
    refine lv_iconst (v := 3) hx hb dL_law_1681 (by decide) ?_
    refine lv_iadd hx hb dL_law_1682 ?_
    refine lv_topi (fun x12 ex12 => ?_)
    obtain rfl : x12 = 3 := ex12.trans (by decide)
    refine va_sld hx hb hX hbl hbA hS (vp_in_iff.mpr (by decide)) dL_law_1683 ?_
    refine W.eq (g2 := F0 m 1684 ls [.int (xs 3), .int (xs 2), .int (xs 1), .ref (bb 0), .int (-6)]) rfl ?_
    refine lv_i2l hx hb dL_law_1684 rfl ?_
    refine lv_bipush (v := 32) hx hb dL_law_1685 (by decide) ?_
    refine lv_lshl hx hb dL_law_1687 rfl ?_
    refine lv_topl (fun x13 ex13 => ?_)
    refine lv_aload_n hx hb dL_law_1688 rfl (lv_at hl 0 rfl) ?_
    refine lv_iload_n hx hb dL_law_1689 rfl (lv_at hl 3 rfl) ?_
    refine lv_iconst (v := 4) hx hb dL_law_1690 (by decide) ?_
    refine lv_iadd hx hb dL_law_1691 ?_
    refine lv_topi (fun x14 ex14 => ?_)
    obtain rfl : x14 = 4 := ex14.trans (by decide)
    refine va_sld hx hb hX hbl hbA hS (vp_in_iff.mpr (by decide)) dL_law_1692 ?_
    refine W.eq (g2 := F0 m 1693 ls [.int (xs 4), .long x13, .int (xs 2), .int (xs 1), .ref (bb 0), .int (-6)]) rfl ?_
    refine lv_i2l hx hb dL_law_1693 rfl ?_
    refine lv_ldc2 (own := RL) (v := 4294967295) hx hb hown (hts0 (.constantLong RL 200 (4294967295)) (wsL_law_r1_in _ (List.mem_of_getElem? (i := 6) rfl))) dL_law_1694 ?_
    refine lv_land hx hb dL_law_1697 ?_
    refine lv_topl (fun x15 ex15 => ?_)
    refine lv_lor hx hb dL_law_1698 ?_
    refine lv_topl (fun x16 ex16 => ?_)
    have htc := fun w h => hts0 w (hwL_X12_write w h)
    refine pvi (C := RX12) (As := [.int (xs 1), .int (xs 2), .long x16]) (rest := [.int (-6)]) (wc := [m0 k bb, m14 k bb]) ⟨hx, hb, hml, hown, htc⟩ (c_X12_write l D k bb (xs 1) (xs 2) x16) (cwV 3 htc gS_X12_write rfl rfl rfl (by decide +kernel) ⟨Nat.le_of_ble_eq_true rfl, Nat.le_of_ble_eq_true rfl⟩) hP hK [48, 62] rfl 48 rfl rfl rfl rfl hl.1 rfl (Nat.le_of_ble_eq_true rfl) dL_law_1699 ⟨Nat.le_of_ble_eq_true rfl, Nat.le_of_ble_eq_true rfl⟩ (fun r17 hr17 => ?_)
    rcases hr17 with ⟨g18, rfl⟩ | ⟨g18, rfl⟩
    · refine lv_icmp_eq (tgt := 1770) hx hb dL_law_1702 (by decide) (fun _ => ?_) (fun h => absurd (by decide) h)
      exact law_tail C0 (Nat.le_refl 6) hS (lv_sub hl [0, 1, 2, 3] rfl) (Nat.le_of_ble_eq_true rfl) (Nat.le_of_ble_eq_true rfl)
    · exact False.elim (by (try simp only [i_lt, i_le, i_eq, Int32.toInt_toInt64, Int32.reduceToInt, Int64.reduceToInt] at ex4 ex6 ex7 g9 ex13 ex15 ex16 g18); omega)
  · refine lv_aload_n hx hb dL_law_1668 rfl (lv_at hl 2 rfl) ?_
    refine lv_aload_n hx hb dL_law_1669 rfl (lv_at hl 0 rfl) ?_
    refine lv_iload_n hx hb dL_law_1670 rfl (lv_at hl 3 rfl) ?_
    refine lv_iconst (v := 1) hx hb dL_law_1671 (by decide) ?_
    refine lv_iadd hx hb dL_law_1672 ?_
    refine lv_topi (fun x19 ex19 => ?_)
    obtain rfl : x19 = 1 := ex19.trans (by decide)
    refine va_sld hx hb hX hbl hbA hS (vp_in_iff.mpr (by decide)) dL_law_1673 ?_
    refine W.eq (g2 := F0 m 1674 ls [.int (xs 1), .ref (bb 0), .int (-2)]) rfl ?_
    refine lv_aload_n hx hb dL_law_1674 rfl (lv_at hl 0 rfl) ?_
    refine lv_iload_n hx hb dL_law_1675 rfl (lv_at hl 3 rfl) ?_
    refine lv_iconst (v := 2) hx hb dL_law_1676 (by decide) ?_
    refine lv_iadd hx hb dL_law_1677 ?_
    refine lv_topi (fun x20 ex20 => ?_)
    obtain rfl : x20 = 2 := ex20.trans (by decide)
    refine va_sld hx hb hX hbl hbA hS (vp_in_iff.mpr (by decide)) dL_law_1678 ?_
    refine W.eq (g2 := F0 m 1679 ls [.int (xs 2), .int (xs 1), .ref (bb 0), .int (-2)]) rfl ?_
    refine lv_aload_n hx hb dL_law_1679 rfl (lv_at hl 0 rfl) ?_
    refine lv_iload_n hx hb dL_law_1680 rfl (lv_at hl 3 rfl) ?_
    refine lv_iconst (v := 3) hx hb dL_law_1681 (by decide) ?_
    refine lv_iadd hx hb dL_law_1682 ?_
    refine lv_topi (fun x21 ex21 => ?_)
    obtain rfl : x21 = 3 := ex21.trans (by decide)
    refine va_sld hx hb hX hbl hbA hS (vp_in_iff.mpr (by decide)) dL_law_1683 ?_
    refine W.eq (g2 := F0 m 1684 ls [.int (xs 3), .int (xs 2), .int (xs 1), .ref (bb 0), .int (-2)]) rfl ?_
    refine lv_i2l hx hb dL_law_1684 rfl ?_
    refine lv_bipush (v := 32) hx hb dL_law_1685 (by decide) ?_
    refine lv_lshl hx hb dL_law_1687 rfl ?_
    refine lv_topl (fun x22 ex22 => ?_)
    refine lv_aload_n hx hb dL_law_1688 rfl (lv_at hl 0 rfl) ?_
    refine lv_iload_n hx hb dL_law_1689 rfl (lv_at hl 3 rfl) ?_
    refine lv_iconst (v := 4) hx hb dL_law_1690 (by decide) ?_
    refine lv_iadd hx hb dL_law_1691 ?_
    refine lv_topi (fun x23 ex23 => ?_)
    obtain rfl : x23 = 4 := ex23.trans (by decide)
    refine va_sld hx hb hX hbl hbA hS (vp_in_iff.mpr (by decide)) dL_law_1692 ?_
    refine W.eq (g2 := F0 m 1693 ls [.int (xs 4), .long x22, .int (xs 2), .int (xs 1), .ref (bb 0), .int (-2)]) rfl ?_
    refine lv_i2l hx hb dL_law_1693 rfl ?_
    refine lv_ldc2 (own := RL) (v := 4294967295) hx hb hown (hts0 (.constantLong RL 200 (4294967295)) (wsL_law_r1_in _ (List.mem_of_getElem? (i := 6) rfl))) dL_law_1694 ?_
    refine lv_land hx hb dL_law_1697 ?_
    refine lv_topl (fun x24 ex24 => ?_)
    refine lv_lor hx hb dL_law_1698 ?_
    refine lv_topl (fun x25 ex25 => ?_)
    have htc := fun w h => hts0 w (hwL_X12_write w h)
    refine pvi (C := RX12) (As := [.int (xs 1), .int (xs 2), .long x25]) (rest := [.int (-2)]) (wc := [m0 k bb, m14 k bb]) ⟨hx, hb, hml, hown, htc⟩ (c_X12_write l D k bb (xs 1) (xs 2) x25) (cwV 3 htc gS_X12_write rfl rfl rfl (by decide +kernel) ⟨Nat.le_of_ble_eq_true rfl, Nat.le_of_ble_eq_true rfl⟩) hP hK [48, 62] rfl 48 rfl rfl rfl rfl hl.1 rfl (Nat.le_of_ble_eq_true rfl) dL_law_1699 ⟨Nat.le_of_ble_eq_true rfl, Nat.le_of_ble_eq_true rfl⟩ (fun r26 hr26 => ?_)
    rcases hr26 with ⟨g27, rfl⟩ | ⟨g27, rfl⟩
    · exact False.elim (by (try simp only [i_lt, i_le, i_eq, Int32.toInt_toInt64, Int32.reduceToInt, Int64.reduceToInt] at ex4 ex6 ex7 g9 ex22 ex24 ex25 g27); omega)
    · refine lv_icmp_eq (tgt := 1770) hx hb dL_law_1702 (by decide) (fun _ => ?_) (fun h => absurd (by decide) h)
      exact law_tail C0 (Nat.le_refl 6) hS (lv_sub hl [0, 1, 2, 3] rfl) (Nat.le_of_ble_eq_true rfl) (Nat.le_of_ble_eq_true rfl)
set_option maxHeartbeats 4000000 in
set_option maxRecDepth 100000 in
theorem law_46 {p : Program} {l : Launch} {e : Env} {s : State} {m : MethodId} {below : List Frame} {meth : Method} {c : Code} {b : Nat} {xs : Nat → Int32} {D : va_G} {k : Nat → ClassId} {a bb : Nat → Nat} (C0 : lw_At p s m meth c b 6 xs) (hN : NW s) (hK : va_K D vwCl (TYS k) s) {H : Heap} {locs : List Loc} (hP : va_P D vwCl (ALLW k a bb) H) (hD : va_D (fun q : Nat => s.heap.size ≤ q) (ALLW k a bb)) (hS : va_S (fun q : Nat => s.heap.size ≤ q) s.heap H locs) {ls : Array Slot} (hl : lv_has ls 4 [(0, .ref b), (1, .ref (a 0)), (2, .ref (bb 0)), (3, .int 0)]) : W p l e room_1 s m #[Value.ref b] below meth c H locs 66 21009 (lw_Z below #[Value.ref b] s) (F0 m 1707 ls []) := by
  obtain ⟨hx, hb, hr, hml, hown, hts0, hX, hbl, hlocks, hgv⟩ := id C0
  have hA : ∀ q : Nat, s.heap.size ≤ q → (fun q : Nat => s.heap.size ≤ q) q := fun _ h => h
  have hbA : ¬ (fun q : Nat => s.heap.size ≤ q) b := Nat.not_le.mpr hbl
  refine lv_aload_n hx hb dL_law_1707 rfl (lv_at hl 1 rfl) ?_
  refine lv_aload_n hx hb dL_law_1708 rfl (lv_at hl 0 rfl) ?_
  refine lv_iload_n hx hb dL_law_1709 rfl (lv_at hl 3 rfl) ?_
  refine lv_iconst (v := 1) hx hb dL_law_1710 (by decide) ?_
  refine lv_iadd hx hb dL_law_1711 ?_
  refine lv_topi (fun x1 ex1 => ?_)
  obtain rfl : x1 = 1 := ex1.trans (by decide)
  refine va_sld hx hb hX hbl hbA hS (vp_in_iff.mpr (by decide)) dL_law_1712 ?_
  refine W.eq (g2 := F0 m 1713 ls [.int (xs 1), .ref (a 0)]) rfl ?_
  refine lv_aload_n hx hb dL_law_1713 rfl (lv_at hl 0 rfl) ?_
  refine lv_iload_n hx hb dL_law_1714 rfl (lv_at hl 3 rfl) ?_
  refine lv_iconst (v := 2) hx hb dL_law_1715 (by decide) ?_
  refine lv_iadd hx hb dL_law_1716 ?_
  refine lv_topi (fun x2 ex2 => ?_)
  obtain rfl : x2 = 2 := ex2.trans (by decide)
  refine va_sld hx hb hX hbl hbA hS (vp_in_iff.mpr (by decide)) dL_law_1717 ?_
  refine W.eq (g2 := F0 m 1718 ls [.int (xs 2), .int (xs 1), .ref (a 0)]) rfl ?_
  refine lv_aload_n hx hb dL_law_1718 rfl (lv_at hl 0 rfl) ?_
  refine lv_iload_n hx hb dL_law_1719 rfl (lv_at hl 3 rfl) ?_
  refine lv_iconst (v := 3) hx hb dL_law_1720 (by decide) ?_
  refine lv_iadd hx hb dL_law_1721 ?_
  refine lv_topi (fun x3 ex3 => ?_)
  obtain rfl : x3 = 3 := ex3.trans (by decide)
  refine va_sld hx hb hX hbl hbA hS (vp_in_iff.mpr (by decide)) dL_law_1722 ?_
  refine W.eq (g2 := F0 m 1723 ls [.int (xs 3), .int (xs 2), .int (xs 1), .ref (a 0)]) rfl ?_
  refine lv_aload_n hx hb dL_law_1723 rfl (lv_at hl 0 rfl) ?_
  refine lv_iload_n hx hb dL_law_1724 rfl (lv_at hl 3 rfl) ?_
  refine lv_iconst (v := 4) hx hb dL_law_1725 (by decide) ?_
  refine lv_iadd hx hb dL_law_1726 ?_
  refine lv_topi (fun x4 ex4 => ?_)
  obtain rfl : x4 = 4 := ex4.trans (by decide)
  refine va_sld hx hb hX hbl hbA hS (vp_in_iff.mpr (by decide)) dL_law_1727 ?_
  refine W.eq (g2 := F0 m 1728 ls [.int (xs 4), .int (xs 3), .int (xs 2), .int (xs 1), .ref (a 0)]) rfl ?_
  refine lv_aload_n hx hb dL_law_1728 rfl (lv_at hl 0 rfl) ?_
  refine lv_iload_n hx hb dL_law_1729 rfl (lv_at hl 3 rfl) ?_
  refine lv_iconst (v := 5) hx hb dL_law_1730 (by decide) ?_
  refine lv_iadd hx hb dL_law_1731 ?_
  refine lv_topi (fun x5 ex5 => ?_)
  obtain rfl : x5 = 5 := ex5.trans (by decide)
  refine va_sld hx hb hX hbl hbA hS (vp_in_iff.mpr (by decide)) dL_law_1732 ?_
  refine W.eq (g2 := F0 m 1733 ls [.int (xs 5), .int (xs 4), .int (xs 3), .int (xs 2), .int (xs 1), .ref (a 0)]) rfl ?_
  have htc := fun w h => hts0 w (hwL_X11_paste w h)
  refine pvi (C := RX11) (As := [.int (xs 1), .int (xs 2), .int (xs 3), .int (xs 4), .int (xs 5)]) (rest := []) (wc := [e0 k a, e4 k a, e5 k a, e6 k a, e7 k a, e8 k a]) ⟨hx, hb, hml, hown, htc⟩ (c_X11_paste l D k a (xs 1) (xs 2) (xs 3) (xs 4) (xs 5)) (cwV 5 htc gS_X11_paste rfl rfl rfl (by decide +kernel) ⟨Nat.le_of_ble_eq_true rfl, Nat.le_of_ble_eq_true rfl⟩) hP hK [0, 4, 5, 6, 7, 8] rfl 0 rfl rfl rfl rfl hl.1 rfl (Nat.le_of_ble_eq_true rfl) dL_law_1733 ⟨Nat.le_of_ble_eq_true rfl, Nat.le_of_ble_eq_true rfl⟩ (fun r6 hr6 => ?_)
  rcases hr6 with ⟨g7, rfl⟩ | ⟨g7, rfl⟩
  · refine lv_aload_n hx hb dL_law_1736 rfl (lv_at hl 2 rfl) ?_
    refine lv_aload_n hx hb dL_law_1737 rfl (lv_at hl 0 rfl) ?_
    refine lv_iload_n hx hb dL_law_1738 rfl (lv_at hl 3 rfl) ?_
    refine lv_iconst (v := 1) hx hb dL_law_1739 (by decide) ?_
    refine lv_iadd hx hb dL_law_1740 ?_
    refine lv_topi (fun x8 ex8 => ?_)
    obtain rfl : x8 = 1 := ex8.trans (by decide)
    refine va_sld hx hb hX hbl hbA hS (vp_in_iff.mpr (by decide)) dL_law_1741 ?_
    refine W.eq (g2 := F0 m 1742 ls [.int (xs 1), .ref (bb 0), .int (-6)]) rfl ?_
    refine lv_aload_n hx hb dL_law_1742 rfl (lv_at hl 0 rfl) ?_
    refine lv_iload_n hx hb dL_law_1743 rfl (lv_at hl 3 rfl) ?_
    refine lv_iconst (v := 2) hx hb dL_law_1744 (by decide) ?_
    refine lv_iadd hx hb dL_law_1745 ?_
    refine lv_topi (fun x9 ex9 => ?_)
    obtain rfl : x9 = 2 := ex9.trans (by decide)
    refine va_sld hx hb hX hbl hbA hS (vp_in_iff.mpr (by decide)) dL_law_1746 ?_
    refine W.eq (g2 := F0 m 1747 ls [.int (xs 2), .int (xs 1), .ref (bb 0), .int (-6)]) rfl ?_
    refine lv_aload_n hx hb dL_law_1747 rfl (lv_at hl 0 rfl) ?_
    refine lv_iload_n hx hb dL_law_1748 rfl (lv_at hl 3 rfl) ?_
    refine lv_iconst (v := 3) hx hb dL_law_1749 (by decide) ?_
    refine lv_iadd hx hb dL_law_1750 ?_
    refine lv_topi (fun x10 ex10 => ?_)
    obtain rfl : x10 = 3 := ex10.trans (by decide)
    refine va_sld hx hb hX hbl hbA hS (vp_in_iff.mpr (by decide)) dL_law_1751 ?_
    refine W.eq (g2 := F0 m 1752 ls [.int (xs 3), .int (xs 2), .int (xs 1), .ref (bb 0), .int (-6)]) rfl ?_
    refine lv_aload_n hx hb dL_law_1752 rfl (lv_at hl 0 rfl) ?_
    refine lv_iload_n hx hb dL_law_1753 rfl (lv_at hl 3 rfl) ?_
    refine lv_iconst (v := 4) hx hb dL_law_1754 (by decide) ?_
    refine lv_iadd hx hb dL_law_1755 ?_
    refine lv_topi (fun x11 ex11 => ?_)
    obtain rfl : x11 = 4 := ex11.trans (by decide)
    refine va_sld hx hb hX hbl hbA hS (vp_in_iff.mpr (by decide)) dL_law_1756 ?_
    refine W.eq (g2 := F0 m 1757 ls [.int (xs 4), .int (xs 3), .int (xs 2), .int (xs 1), .ref (bb 0), .int (-6)]) rfl ?_
    refine lv_aload_n hx hb dL_law_1757 rfl (lv_at hl 0 rfl) ?_
    refine lv_iload_n hx hb dL_law_1758 rfl (lv_at hl 3 rfl) ?_
    refine lv_iconst (v := 5) hx hb dL_law_1759 (by decide) ?_
    refine lv_iadd hx hb dL_law_1760 ?_
    refine lv_topi (fun x12 ex12 => ?_)
    obtain rfl : x12 = 5 := ex12.trans (by decide)
    refine va_sld hx hb hX hbl hbA hS (vp_in_iff.mpr (by decide)) dL_law_1761 ?_
    refine W.eq (g2 := F0 m 1762 ls [.int (xs 5), .int (xs 4), .int (xs 3), .int (xs 2), .int (xs 1), .ref (bb 0), .int (-6)]) rfl ?_
    have htc := fun w h => hts0 w (hwL_X12_paste w h)
    refine pvi (C := RX12) (As := [.int (xs 1), .int (xs 2), .int (xs 3), .int (xs 4), .int (xs 5)]) (rest := [.int (-6)]) (wc := [m0 k bb, m14 k bb]) ⟨hx, hb, hml, hown, htc⟩ (c_X12_paste l D k bb (xs 1) (xs 2) (xs 3) (xs 4) (xs 5)) (cwV 5 htc gS_X12_paste rfl rfl rfl (by decide +kernel) ⟨Nat.le_of_ble_eq_true rfl, Nat.le_of_ble_eq_true rfl⟩) hP hK [48, 62] rfl 48 rfl rfl rfl rfl hl.1 rfl (Nat.le_of_ble_eq_true rfl) dL_law_1762 ⟨Nat.le_of_ble_eq_true rfl, Nat.le_of_ble_eq_true rfl⟩ (fun r13 hr13 => ?_)
    rcases hr13 with ⟨g14, rfl⟩ | ⟨g14, rfl⟩
    · refine lv_icmp_eq (tgt := 1770) hx hb dL_law_1765 (by decide) (fun _ => ?_) (fun h => absurd (by decide) h)
      exact law_tail C0 (Nat.le_refl 6) hS (lv_sub hl [0, 1, 2, 3] rfl) (Nat.le_of_ble_eq_true rfl) (Nat.le_of_ble_eq_true rfl)
    · exact False.elim (by (try simp only [i_lt, i_le, i_eq, Int32.toInt_toInt64, Int32.reduceToInt, Int64.reduceToInt] at g7 g14); omega)
  · refine lv_aload_n hx hb dL_law_1736 rfl (lv_at hl 2 rfl) ?_
    refine lv_aload_n hx hb dL_law_1737 rfl (lv_at hl 0 rfl) ?_
    refine lv_iload_n hx hb dL_law_1738 rfl (lv_at hl 3 rfl) ?_
    refine lv_iconst (v := 1) hx hb dL_law_1739 (by decide) ?_
    refine lv_iadd hx hb dL_law_1740 ?_
    refine lv_topi (fun x15 ex15 => ?_)
    obtain rfl : x15 = 1 := ex15.trans (by decide)
    refine va_sld hx hb hX hbl hbA hS (vp_in_iff.mpr (by decide)) dL_law_1741 ?_
    refine W.eq (g2 := F0 m 1742 ls [.int (xs 1), .ref (bb 0), .int (-2)]) rfl ?_
    refine lv_aload_n hx hb dL_law_1742 rfl (lv_at hl 0 rfl) ?_
    refine lv_iload_n hx hb dL_law_1743 rfl (lv_at hl 3 rfl) ?_
    refine lv_iconst (v := 2) hx hb dL_law_1744 (by decide) ?_
    refine lv_iadd hx hb dL_law_1745 ?_
    refine lv_topi (fun x16 ex16 => ?_)
    obtain rfl : x16 = 2 := ex16.trans (by decide)
    refine va_sld hx hb hX hbl hbA hS (vp_in_iff.mpr (by decide)) dL_law_1746 ?_
    refine W.eq (g2 := F0 m 1747 ls [.int (xs 2), .int (xs 1), .ref (bb 0), .int (-2)]) rfl ?_
    refine lv_aload_n hx hb dL_law_1747 rfl (lv_at hl 0 rfl) ?_
    refine lv_iload_n hx hb dL_law_1748 rfl (lv_at hl 3 rfl) ?_
    refine lv_iconst (v := 3) hx hb dL_law_1749 (by decide) ?_
    refine lv_iadd hx hb dL_law_1750 ?_
    refine lv_topi (fun x17 ex17 => ?_)
    obtain rfl : x17 = 3 := ex17.trans (by decide)
    refine va_sld hx hb hX hbl hbA hS (vp_in_iff.mpr (by decide)) dL_law_1751 ?_
    refine W.eq (g2 := F0 m 1752 ls [.int (xs 3), .int (xs 2), .int (xs 1), .ref (bb 0), .int (-2)]) rfl ?_
    refine lv_aload_n hx hb dL_law_1752 rfl (lv_at hl 0 rfl) ?_
    refine lv_iload_n hx hb dL_law_1753 rfl (lv_at hl 3 rfl) ?_
    refine lv_iconst (v := 4) hx hb dL_law_1754 (by decide) ?_
    refine lv_iadd hx hb dL_law_1755 ?_
    refine lv_topi (fun x18 ex18 => ?_)
    obtain rfl : x18 = 4 := ex18.trans (by decide)
    refine va_sld hx hb hX hbl hbA hS (vp_in_iff.mpr (by decide)) dL_law_1756 ?_
    refine W.eq (g2 := F0 m 1757 ls [.int (xs 4), .int (xs 3), .int (xs 2), .int (xs 1), .ref (bb 0), .int (-2)]) rfl ?_
    refine lv_aload_n hx hb dL_law_1757 rfl (lv_at hl 0 rfl) ?_
    refine lv_iload_n hx hb dL_law_1758 rfl (lv_at hl 3 rfl) ?_
    refine lv_iconst (v := 5) hx hb dL_law_1759 (by decide) ?_
    refine lv_iadd hx hb dL_law_1760 ?_
    refine lv_topi (fun x19 ex19 => ?_)
    obtain rfl : x19 = 5 := ex19.trans (by decide)
    refine va_sld hx hb hX hbl hbA hS (vp_in_iff.mpr (by decide)) dL_law_1761 ?_
    refine W.eq (g2 := F0 m 1762 ls [.int (xs 5), .int (xs 4), .int (xs 3), .int (xs 2), .int (xs 1), .ref (bb 0), .int (-2)]) rfl ?_
    have htc := fun w h => hts0 w (hwL_X12_paste w h)
    refine pvi (C := RX12) (As := [.int (xs 1), .int (xs 2), .int (xs 3), .int (xs 4), .int (xs 5)]) (rest := [.int (-2)]) (wc := [m0 k bb, m14 k bb]) ⟨hx, hb, hml, hown, htc⟩ (c_X12_paste l D k bb (xs 1) (xs 2) (xs 3) (xs 4) (xs 5)) (cwV 5 htc gS_X12_paste rfl rfl rfl (by decide +kernel) ⟨Nat.le_of_ble_eq_true rfl, Nat.le_of_ble_eq_true rfl⟩) hP hK [48, 62] rfl 48 rfl rfl rfl rfl hl.1 rfl (Nat.le_of_ble_eq_true rfl) dL_law_1762 ⟨Nat.le_of_ble_eq_true rfl, Nat.le_of_ble_eq_true rfl⟩ (fun r20 hr20 => ?_)
    rcases hr20 with ⟨g21, rfl⟩ | ⟨g21, rfl⟩
    · exact False.elim (by (try simp only [i_lt, i_le, i_eq, Int32.toInt_toInt64, Int32.reduceToInt, Int64.reduceToInt] at g7 g21); omega)
    · refine lv_icmp_eq (tgt := 1770) hx hb dL_law_1765 (by decide) (fun _ => ?_) (fun h => absurd (by decide) h)
      exact law_tail C0 (Nat.le_refl 6) hS (lv_sub hl [0, 1, 2, 3] rfl) (Nat.le_of_ble_eq_true rfl) (Nat.le_of_ble_eq_true rfl)
