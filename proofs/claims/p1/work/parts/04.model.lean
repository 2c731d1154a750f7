set_option maxHeartbeats 4000000 in
set_option maxRecDepth 100000 in
theorem c_X12_in (l : Launch) (D : va_G) (k : Nat → ClassId) (p1 p2 p3 : Int64) : Met l yX12_in wsX12_in ({ frames := 0, cells := 0, slots := 0, locals := 0 }) (PreR D k [] [.long p1, .long p2, .long p3]) (vp_Si (fun r => ((p2.toInt ≤ p1.toInt ∧ p1.toInt ≤ p3.toInt) ∧ r = 1) ∨ (¬ (p2.toInt ≤ p1.toInt ∧ p1.toInt ≤ p3.toInt) ∧ r = 0))) 0 0 (fun _ => False) := by
  refine Met.ofW (cc := cX12_in) (maxL := 6) (ret := (some .boolean)) (by decide) rfl ?_
  intro p e s m args below meth c s₁ B hml hv
  obtain ⟨rfl, hP, hK⟩ := hv
  have hx := B.exec
  have hb := B.bytes
  have hr := B.returns
  have hts := atoms_spec (ws := wsX12_in) B.pre
  have hown : s.vm.findClass RX12 = some m.cls := findClass_of_methodNamed B.named
  have hlocks := B.notSynchronized
  have hl := lv_entry ([.long p1, .long p2, .long p3]) (n := 6) (Nat.le_of_ble_eq_true rfl)
  rw [lg_entry_eq]
  generalize (lg_sl ([.long p1, .long p2, .long p3]) ++ List.replicate (6 - (lg_sl ([.long p1, .long p2, .long p3])).length) Slot.unset).toArray = ls at hl ⊢
  have hl : lv_has ls 6 [(0, .long p1), (2, .long p2), (4, .long p3)] := hl
  refine lv_lload_n hx hb dX12_in_0 rfl (lv_at hl 0 rfl) ?_
  refine lv_lload_n hx hb dX12_in_1 rfl (lv_at hl 1 rfl) ?_
  refine W.lcmp hx hb dX12_in_2 ?_
  refine lv_if_lt (tgt := 17) hx hb dX12_in_3 (by decide) (fun c1 => ?_) (fun c1 => ?_)
  · refine lv_iconst (v := 0) hx hb dX12_in_17 (by decide) ?_
    exact W.zret (v := 0) hx hb hr rfl (fun t ht hW => ⟨0, rfl, Or.inr ⟨by (try simp only [lg_cmp_lt, lg_cmp_gt, lg_cmp_le, lg_cmp_ge, Int64.lt_iff_toInt_lt, Int64.le_iff_toInt_le] at c1 ⊢); omega, rfl⟩, ht⟩) (fun q h => by cases h) dX12_in_18
  · refine lv_lload_n hx hb dX12_in_6 rfl (lv_at hl 0 rfl) ?_
    refine lv_lload hx hb dX12_in_7 (lv_at hl 2 rfl) ?_
    refine W.lcmp hx hb dX12_in_9 ?_
    refine lv_if_gt (tgt := 17) hx hb dX12_in_10 (by decide) (fun c2 => ?_) (fun c2 => ?_)
    · refine lv_iconst (v := 0) hx hb dX12_in_17 (by decide) ?_
      exact W.zret (v := 0) hx hb hr rfl (fun t ht hW => ⟨0, rfl, Or.inr ⟨by (try simp only [lg_cmp_lt, lg_cmp_gt, lg_cmp_le, lg_cmp_ge, Int64.lt_iff_toInt_lt, Int64.le_iff_toInt_le] at c1 c2 ⊢); omega, rfl⟩, ht⟩) (fun q h => by cases h) dX12_in_18
    · refine lv_iconst (v := 1) hx hb dX12_in_13 (by decide) ?_
      refine lv_goto (tgt := 18) hx hb dX12_in_14 (by decide) ?_
      exact W.zret (v := 1) hx hb hr rfl (fun t ht hW => ⟨1, rfl, Or.inl ⟨by (try simp only [lg_cmp_lt, lg_cmp_gt, lg_cmp_le, lg_cmp_ge, Int64.lt_iff_toInt_lt, Int64.le_iff_toInt_le] at c1 c2 ⊢); omega, rfl⟩, ht⟩) (fun q h => by cases h) dX12_in_18
set_option maxHeartbeats 4000000 in
set_option maxRecDepth 100000 in
theorem c_X12_isPot (l : Launch) (D : va_G) (k : Nat → ClassId) (b : Nat → Nat) (p1 : Int32) : Met l yX12_isPot wsX12_isPot ({ frames := 1, cells := 0, slots := 0, locals := 25 }) (PreR D k [m0 k b, m1 k b] [.ref (b 0), .int p1]) (vp_Si (fun r => r = 0)) 0 0 (fun _ => False) := by
  refine Met.ofW (cc := cX12_isPot) (maxL := 2) (ret := (some .boolean)) (by decide) rfl ?_
  intro p e s m args below meth c s₁ B hml hv
  obtain ⟨rfl, hP, hK⟩ := hv
  have hx := B.exec
  have hb := B.bytes
  have hr := B.returns
  have hts := atoms_spec (ws := wsX12_isPot) B.pre
  have hown : s.vm.findClass RX12 = some m.cls := findClass_of_methodNamed B.named
  have hlocks := B.notSynchronized
  have i_X12 : ∀ w ∈ wsX120, w ∈ wsX12_isPot := by decide +kernel
  have hl := lv_entry ([.ref (b 0), .int p1]) (n := 2) (Nat.le_of_ble_eq_true rfl)
  rw [lg_entry_eq]
  generalize (lg_sl ([.ref (b 0), .int p1]) ++ List.replicate (2 - (lg_sl ([.ref (b 0), .int p1])).length) Slot.unset).toArray = ls at hl ⊢
  have hl : lv_has ls 2 [(0, .ref (b 0)), (1, .int p1)] := hl
  refine lv_iload_n hx hb dX12_isPot_0 rfl (lv_at hl 1 rfl) ?_
  refine lv_i2l hx hb dX12_isPot_1 rfl ?_
  refine lv_lconst (v := 0) hx hb dX12_isPot_2 (by decide) ?_
  refine lv_aload_n hx hb dX12_isPot_3 rfl (lv_at hl 0 rfl) ?_
  refine va_get (D := D) (ci := 12) (v := .ref (b 1)) (C := RX12) (T := TX12) (N := 34) hx hb hts i_X12 hown hK hP 0 rfl rfl 1 (by decide) (hts (.fieldLink RX12 13 "BellowsRowModel" "world" "[I") (by decide +kernel)) (fun _ h9 => h9) rfl dX12_isPot_4 ?_
  refine lv_iconst (v := 1) hx hb dX12_isPot_7 (by decide) ?_
  refine va_iald hx hb hK hP 1 1 rfl rfl (vp_in_iff.mpr (by decide)) dX12_isPot_8 ?_
  refine W.eq (g2 := F0 m 9 ls [.int 0, .long 0, .long p1.toInt64]) rfl ?_
  refine lv_iconst (v := 1) hx hb dX12_isPot_9 (by decide) ?_
  refine lv_isub hx hb dX12_isPot_10 ?_
  refine lv_topi (fun x1 ex1 => ?_)
  obtain rfl : x1 = (-1) := ex1.trans (by decide)
  refine lv_i2l (v := (-1)) hx hb dX12_isPot_11 (by decide) ?_
  refine psi (As := [.long p1.toInt64, .long 0, .long (-1)]) (rest := []) ⟨hx, hb, hml, hown, hts⟩ (c_X12_in l D k p1.toInt64 (0 : Int64) (-1 : Int64)) (va_cwS 3 hts gX12_isPot_X12_in rfl rfl rfl (by decide +kernel) ⟨Nat.le_of_ble_eq_true rfl, Nat.le_of_ble_eq_true rfl⟩) hK rfl hl.1 rfl (Nat.le_of_ble_eq_true rfl) dX12_isPot_12 ⟨Nat.le_of_ble_eq_true rfl, Nat.le_of_ble_eq_true rfl⟩ (fun r2 hr2 => ?_)
  rcases hr2 with ⟨g3, rfl⟩ | ⟨g3, rfl⟩
  · exact False.elim (by (try simp only [i_lt, i_le, i_eq, Int32.toInt_toInt64, Int32.reduceToInt, Int64.reduceToInt] at g3); omega)
  exact W.zret (v := 0) hx hb hr rfl (fun t ht hW => ⟨0, rfl, rfl, ht⟩) (fun q h => by cases h) dX12_isPot_15
set_option maxHeartbeats 4000000 in
set_option maxRecDepth 100000 in
theorem c_X12_isPipe (l : Launch) (D : va_G) (k : Nat → ClassId) (b : Nat → Nat) (p1 : Int32) : Met l yX12_isPipe wsX12_isPipe ({ frames := 1, cells := 0, slots := 0, locals := 25 }) (PreR D k [m0 k b, m1 k b] [.ref (b 0), .int p1]) (vp_Si (fun r => r = 0)) 0 0 (fun _ => False) := by
  refine Met.ofW (cc := cX12_isPipe) (maxL := 2) (ret := (some .boolean)) (by decide) rfl ?_
  intro p e s m args below meth c s₁ B hml hv
  obtain ⟨rfl, hP, hK⟩ := hv
  have hx := B.exec
  have hb := B.bytes
  have hr := B.returns
  have hts := atoms_spec (ws := wsX12_isPipe) B.pre
  have hown : s.vm.findClass RX12 = some m.cls := findClass_of_methodNamed B.named
  have hlocks := B.notSynchronized
  have i_X12 : ∀ w ∈ wsX120, w ∈ wsX12_isPipe := by decide +kernel
  have hl := lv_entry ([.ref (b 0), .int p1]) (n := 2) (Nat.le_of_ble_eq_true rfl)
  rw [lg_entry_eq]
  generalize (lg_sl ([.ref (b 0), .int p1]) ++ List.replicate (2 - (lg_sl ([.ref (b 0), .int p1])).length) Slot.unset).toArray = ls at hl ⊢
  have hl : lv_has ls 2 [(0, .ref (b 0)), (1, .int p1)] := hl
  refine lv_iload_n hx hb dX12_isPipe_0 rfl (lv_at hl 1 rfl) ?_
  refine lv_i2l hx hb dX12_isPipe_1 rfl ?_
  refine lv_lconst (v := 0) hx hb dX12_isPipe_2 (by decide) ?_
  refine lv_aload_n hx hb dX12_isPipe_3 rfl (lv_at hl 0 rfl) ?_
  refine va_get (D := D) (ci := 12) (v := .ref (b 1)) (C := RX12) (T := TX12) (N := 34) hx hb hts i_X12 hown hK hP 0 rfl rfl 1 (by decide) (hts (.fieldLink RX12 13 "BellowsRowModel" "world" "[I") (by decide +kernel)) (fun _ h9 => h9) rfl dX12_isPipe_4 ?_
  refine lv_iconst (v := 2) hx hb dX12_isPipe_7 (by decide) ?_
  refine va_iald hx hb hK hP 1 1 rfl rfl (vp_in_iff.mpr (by decide)) dX12_isPipe_8 ?_
  refine W.eq (g2 := F0 m 9 ls [.int 0, .long 0, .long p1.toInt64]) rfl ?_
  refine lv_iconst (v := 1) hx hb dX12_isPipe_9 (by decide) ?_
  refine lv_isub hx hb dX12_isPipe_10 ?_
  refine lv_topi (fun x1 ex1 => ?_)
  obtain rfl : x1 = (-1) := ex1.trans (by decide)
  refine lv_i2l (v := (-1)) hx hb dX12_isPipe_11 (by decide) ?_
  refine psi (As := [.long p1.toInt64, .long 0, .long (-1)]) (rest := []) ⟨hx, hb, hml, hown, hts⟩ (c_X12_in l D k p1.toInt64 (0 : Int64) (-1 : Int64)) (va_cwS 3 hts gX12_isPipe_X12_in rfl rfl rfl (by decide +kernel) ⟨Nat.le_of_ble_eq_true rfl, Nat.le_of_ble_eq_true rfl⟩) hK rfl hl.1 rfl (Nat.le_of_ble_eq_true rfl) dX12_isPipe_12 ⟨Nat.le_of_ble_eq_true rfl, Nat.le_of_ble_eq_true rfl⟩ (fun r2 hr2 => ?_)
  rcases hr2 with ⟨g3, rfl⟩ | ⟨g3, rfl⟩
  · exact False.elim (by (try simp only [i_lt, i_le, i_eq, Int32.toInt_toInt64, Int32.reduceToInt, Int64.reduceToInt] at g3); omega)
  exact W.zret (v := 0) hx hb hr rfl (fun t ht hW => ⟨0, rfl, rfl, ht⟩) (fun q h => by cases h) dX12_isPipe_15
set_option maxHeartbeats 4000000 in
set_option maxRecDepth 100000 in
theorem c_X12_isHour (l : Launch) (D : va_G) (k : Nat → ClassId) (b : Nat → Nat) (p1 : Int32) : Met l yX12_isHour wsX12_isHour ({ frames := 1, cells := 0, slots := 0, locals := 25 }) (PreR D k [m0 k b, m1 k b] [.ref (b 0), .int p1]) (vp_Si (fun r => r = 0)) 0 0 (fun _ => False) := by
  refine Met.ofW (cc := cX12_isHour) (maxL := 2) (ret := (some .boolean)) (by decide) rfl ?_
  intro p e s m args below meth c s₁ B hml hv
  obtain ⟨rfl, hP, hK⟩ := hv
  have hx := B.exec
  have hb := B.bytes
  have hr := B.returns
  have hts := atoms_spec (ws := wsX12_isHour) B.pre
  have hown : s.vm.findClass RX12 = some m.cls := findClass_of_methodNamed B.named
  have hlocks := B.notSynchronized
  have i_X12 : ∀ w ∈ wsX120, w ∈ wsX12_isHour := by decide +kernel
  have hl := lv_entry ([.ref (b 0), .int p1]) (n := 2) (Nat.le_of_ble_eq_true rfl)
  rw [lg_entry_eq]
  generalize (lg_sl ([.ref (b 0), .int p1]) ++ List.replicate (2 - (lg_sl ([.ref (b 0), .int p1])).length) Slot.unset).toArray = ls at hl ⊢
  have hl : lv_has ls 2 [(0, .ref (b 0)), (1, .int p1)] := hl
  refine lv_iload_n hx hb dX12_isHour_0 rfl (lv_at hl 1 rfl) ?_
  refine lv_i2l hx hb dX12_isHour_1 rfl ?_
  refine lv_lconst (v := 0) hx hb dX12_isHour_2 (by decide) ?_
  refine lv_aload_n hx hb dX12_isHour_3 rfl (lv_at hl 0 rfl) ?_
  refine va_get (D := D) (ci := 12) (v := .ref (b 1)) (C := RX12) (T := TX12) (N := 34) hx hb hts i_X12 hown hK hP 0 rfl rfl 1 (by decide) (hts (.fieldLink RX12 13 "BellowsRowModel" "world" "[I") (by decide +kernel)) (fun _ h9 => h9) rfl dX12_isHour_4 ?_
  refine lv_bipush (v := 6) hx hb dX12_isHour_7 (by decide) ?_
  refine va_iald hx hb hK hP 1 1 rfl rfl (vp_in_iff.mpr (by decide)) dX12_isHour_9 ?_
  refine W.eq (g2 := F0 m 10 ls [.int 0, .long 0, .long p1.toInt64]) rfl ?_
  refine lv_iconst (v := 1) hx hb dX12_isHour_10 (by decide) ?_
  refine lv_isub hx hb dX12_isHour_11 ?_
  refine lv_topi (fun x1 ex1 => ?_)
  obtain rfl : x1 = (-1) := ex1.trans (by decide)
  refine lv_i2l (v := (-1)) hx hb dX12_isHour_12 (by decide) ?_
  refine psi (As := [.long p1.toInt64, .long 0, .long (-1)]) (rest := []) ⟨hx, hb, hml, hown, hts⟩ (c_X12_in l D k p1.toInt64 (0 : Int64) (-1 : Int64)) (va_cwS 3 hts gX12_isHour_X12_in rfl rfl rfl (by decide +kernel) ⟨Nat.le_of_ble_eq_true rfl, Nat.le_of_ble_eq_true rfl⟩) hK rfl hl.1 rfl (Nat.le_of_ble_eq_true rfl) dX12_isHour_13 ⟨Nat.le_of_ble_eq_true rfl, Nat.le_of_ble_eq_true rfl⟩ (fun r2 hr2 => ?_)
  rcases hr2 with ⟨g3, rfl⟩ | ⟨g3, rfl⟩
  · exact False.elim (by (try simp only [i_lt, i_le, i_eq, Int32.toInt_toInt64, Int32.reduceToInt, Int64.reduceToInt] at g3); omega)
  exact W.zret (v := 0) hx hb hr rfl (fun t ht hW => ⟨0, rfl, rfl, ht⟩) (fun q h => by cases h) dX12_isHour_16
set_option maxHeartbeats 4000000 in
set_option maxRecDepth 100000 in
theorem c_X12_isPress (l : Launch) (D : va_G) (k : Nat → ClassId) (p1 : Int32) : Met l yX12_isPress wsX12_isPress ({ frames := 1, cells := 0, slots := 0, locals := 25 }) (PreR D k [] [.int p1]) (vp_Si (fun r => ((0 ≤ p1.toInt ∧ p1.toInt ≤ 999) ∧ r = 1) ∨ (¬ (0 ≤ p1.toInt ∧ p1.toInt ≤ 999) ∧ r = 0))) 0 0 (fun _ => False) := by
  refine Met.ofW (cc := cX12_isPress) (maxL := 1) (ret := (some .boolean)) (by decide) rfl ?_
  intro p e s m args below meth c s₁ B hml hv
  obtain ⟨rfl, hP, hK⟩ := hv
  have hx := B.exec
  have hb := B.bytes
  have hr := B.returns
  have hts := atoms_spec (ws := wsX12_isPress) B.pre
  have hown : s.vm.findClass RX12 = some m.cls := findClass_of_methodNamed B.named
  have hlocks := B.notSynchronized
  have hl := lv_entry ([.int p1]) (n := 1) (Nat.le_of_ble_eq_true rfl)
  rw [lg_entry_eq]
  generalize (lg_sl ([.int p1]) ++ List.replicate (1 - (lg_sl ([.int p1])).length) Slot.unset).toArray = ls at hl ⊢
  have hl : lv_has ls 1 [(0, .int p1)] := hl
  refine lv_iload_n hx hb dX12_isPress_0 rfl (lv_at hl 0 rfl) ?_
  refine lv_i2l hx hb dX12_isPress_1 rfl ?_
  refine lv_lconst (v := 0) hx hb dX12_isPress_2 (by decide) ?_
  refine lv_ldc2 (own := RX12) (v := 999) hx hb hown (hts (.constantLong RX12 80 (999)) (by decide +kernel)) dX12_isPress_3 ?_
  refine psi (As := [.long p1.toInt64, .long 0, .long 999]) (rest := []) ⟨hx, hb, hml, hown, hts⟩ (c_X12_in l D k p1.toInt64 (0 : Int64) (999 : Int64)) (va_cwS 3 hts gX12_isPress_X12_in rfl rfl rfl (by decide +kernel) ⟨Nat.le_of_ble_eq_true rfl, Nat.le_of_ble_eq_true rfl⟩) hK rfl hl.1 rfl (Nat.le_of_ble_eq_true rfl) dX12_isPress_6 ⟨Nat.le_of_ble_eq_true rfl, Nat.le_of_ble_eq_true rfl⟩ (fun r1 hr1 => ?_)
  rcases hr1 with ⟨g2, rfl⟩ | ⟨g2, rfl⟩
  · exact W.zret (v := 1) hx hb hr rfl (fun t ht hW => ⟨1, rfl, Or.inl ⟨by (try simp only [i_lt, i_le, i_eq, Int32.toInt_toInt64, Int32.reduceToInt, Int64.reduceToInt] at g2 ⊢); omega, rfl⟩, ht⟩) (fun q h => by cases h) dX12_isPress_9
  · exact W.zret (v := 0) hx hb hr rfl (fun t ht hW => ⟨0, rfl, Or.inr ⟨by (try simp only [i_lt, i_le, i_eq, Int32.toInt_toInt64, Int32.reduceToInt, Int64.reduceToInt] at g2 ⊢); omega, rfl⟩, ht⟩) (fun q h => by cases h) dX12_isPress_9
set_option maxHeartbeats 4000000 in
set_option maxRecDepth 100000 in
theorem c_X12_isSlot (l : Launch) (D : va_G) (k : Nat → ClassId) (p1 : Int32) : Met l yX12_isSlot wsX12_isSlot ({ frames := 1, cells := 0, slots := 0, locals := 25 }) (PreR D k [] [.int p1]) (vp_Si (fun r => ((0 ≤ p1.toInt ∧ p1.toInt ≤ 3) ∧ r = 1) ∨ (¬ (0 ≤ p1.toInt ∧ p1.toInt ≤ 3) ∧ r = 0))) 0 0 (fun _ => False) := by
  refine Met.ofW (cc := cX12_isSlot) (maxL := 1) (ret := (some .boolean)) (by decide) rfl ?_
  intro p e s m args below meth c s₁ B hml hv
  obtain ⟨rfl, hP, hK⟩ := hv
  have hx := B.exec
  have hb := B.bytes
  have hr := B.returns
  have hts := atoms_spec (ws := wsX12_isSlot) B.pre
  have hown : s.vm.findClass RX12 = some m.cls := findClass_of_methodNamed B.named
  have hlocks := B.notSynchronized
  have hl := lv_entry ([.int p1]) (n := 1) (Nat.le_of_ble_eq_true rfl)
  rw [lg_entry_eq]
  generalize (lg_sl ([.int p1]) ++ List.replicate (1 - (lg_sl ([.int p1])).length) Slot.unset).toArray = ls at hl ⊢
  have hl : lv_has ls 1 [(0, .int p1)] := hl
  refine lv_iload_n hx hb dX12_isSlot_0 rfl (lv_at hl 0 rfl) ?_
  refine lv_i2l hx hb dX12_isSlot_1 rfl ?_
  refine lv_lconst (v := 0) hx hb dX12_isSlot_2 (by decide) ?_
  refine lv_ldc2 (own := RX12) (v := 3) hx hb hown (hts (.constantLong RX12 334 (3)) (by decide +kernel)) dX12_isSlot_3 ?_
  refine psi (As := [.long p1.toInt64, .long 0, .long 3]) (rest := []) ⟨hx, hb, hml, hown, hts⟩ (c_X12_in l D k p1.toInt64 (0 : Int64) (3 : Int64)) (va_cwS 3 hts gX12_isSlot_X12_in rfl rfl rfl (by decide +kernel) ⟨Nat.le_of_ble_eq_true rfl, Nat.le_of_ble_eq_true rfl⟩) hK rfl hl.1 rfl (Nat.le_of_ble_eq_true rfl) dX12_isSlot_6 ⟨Nat.le_of_ble_eq_true rfl, Nat.le_of_ble_eq_true rfl⟩ (fun r1 hr1 => ?_)
  rcases hr1 with ⟨g2, rfl⟩ | ⟨g2, rfl⟩
  · exact W.zret (v := 1) hx hb hr rfl (fun t ht hW => ⟨1, rfl, Or.inl ⟨by (try simp only [i_lt, i_le, i_eq, Int32.toInt_toInt64, Int32.reduceToInt, Int64.reduceToInt] at g2 ⊢); omega, rfl⟩, ht⟩) (fun q h => by cases h) dX12_isSlot_9
  · exact W.zret (v := 0) hx hb hr rfl (fun t ht hW => ⟨0, rfl, Or.inr ⟨by (try simp only [i_lt, i_le, i_eq, Int32.toInt_toInt64, Int32.reduceToInt, Int64.reduceToInt] at g2 ⊢); omega, rfl⟩, ht⟩) (fun q h => by cases h) dX12_isSlot_9
set_option maxHeartbeats 4000000 in
set_option maxRecDepth 100000 in
theorem c_X12_fault (l : Launch) (D : va_G) (k : Nat → ClassId) (b : Nat → Nat) (p1 : Int32) : Met l yX12_fault wsX12_fault ({ frames := 0, cells := 0, slots := 0, locals := 0 }) (PreR D k [m0 k b] [.ref (b 0), .int p1]) (vp_Si (fun r => ((p1.toInt = 0) ∧ r = 0) ∨ (¬ (p1.toInt = 0) ∧ r = (-1)))) 0 0 (fun _ => False) := by
  refine Met.ofW (cc := cX12_fault) (maxL := 2) (ret := (some .int)) (by decide) rfl ?_
  intro p e s m args below meth c s₁ B hml hv
  obtain ⟨rfl, hP, hK⟩ := hv
  have hx := B.exec
  have hb := B.bytes
  have hr := B.returns
  have hts := atoms_spec (ws := wsX12_fault) B.pre
  have hown : s.vm.findClass RX12 = some m.cls := findClass_of_methodNamed B.named
  have hlocks := B.notSynchronized
  have i_X12 : ∀ w ∈ wsX120, w ∈ wsX12_fault := by decide +kernel
  have hl := lv_entry ([.ref (b 0), .int p1]) (n := 2) (Nat.le_of_ble_eq_true rfl)
  rw [lg_entry_eq]
  generalize (lg_sl ([.ref (b 0), .int p1]) ++ List.replicate (2 - (lg_sl ([.ref (b 0), .int p1])).length) Slot.unset).toArray = ls at hl ⊢
  have hl : lv_has ls 2 [(0, .ref (b 0)), (1, .int p1)] := hl
  refine lv_iload_n hx hb dX12_fault_0 rfl (lv_at hl 1 rfl) ?_
  refine lv_if_ne (tgt := 11) hx hb dX12_fault_1 (by decide) (fun c1 => ?_) (fun c1 => ?_)
  · refine lv_iload_n hx hb dX12_fault_11 rfl (lv_at hl 1 rfl) ?_
    refine lv_iconst (v := 1) hx hb dX12_fault_12 (by decide) ?_
    refine lv_icmp_ne (tgt := 23) hx hb dX12_fault_13 (by decide) (fun c2 => ?_) (fun c2 => ?_)
    · refine lv_iconst (v := (-1)) hx hb dX12_fault_23 (by decide) ?_
      exact W.iret (v := (-1)) hx hb hr (fun t ht hW => ⟨(-1), rfl, Or.inr ⟨by (try simp only [i_lt, i_le, i_eq, Int32.toInt_toInt64, Int32.reduceToInt, Int64.reduceToInt] at c1 c2 ⊢); omega, rfl⟩, ht⟩) (fun q h => by cases h) dX12_fault_24
    · refine lv_aload_n hx hb dX12_fault_16 rfl (lv_at hl 0 rfl) ?_
      refine va_get (D := D) (ci := 12) (v := .int (-1)) (C := RX12) (T := TX12) (N := 34) hx hb hts i_X12 hown hK hP 0 rfl rfl 13 (by decide) (hts (.fieldLink RX12 31 "BellowsRowModel" "faultPlace" "I") (by decide +kernel)) (fun _ h9 => h9) rfl dX12_fault_17 ?_
      refine lv_goto (tgt := 24) hx hb dX12_fault_20 (by decide) ?_
      exact W.iret (v := (-1)) hx hb hr (fun t ht hW => ⟨(-1), rfl, Or.inr ⟨by (try simp only [i_lt, i_le, i_eq, Int32.toInt_toInt64, Int32.reduceToInt, Int64.reduceToInt] at c1 c2 ⊢); omega, rfl⟩, ht⟩) (fun q h => by cases h) dX12_fault_24
  · refine lv_aload_n hx hb dX12_fault_4 rfl (lv_at hl 0 rfl) ?_
    refine va_get (D := D) (ci := 12) (v := .int 0) (C := RX12) (T := TX12) (N := 34) hx hb hts i_X12 hown hK hP 0 rfl rfl 12 (by decide) (hts (.fieldLink RX12 119 "BellowsRowModel" "faultKind" "I") (by decide +kernel)) (fun _ h9 => h9) rfl dX12_fault_5 ?_
    refine lv_goto (tgt := 24) hx hb dX12_fault_8 (by decide) ?_
    exact W.iret (v := 0) hx hb hr (fun t ht hW => ⟨0, rfl, Or.inl ⟨by (try simp only [i_lt, i_le, i_eq, Int32.toInt_toInt64, Int32.reduceToInt, Int64.reduceToInt] at c1 ⊢); omega, rfl⟩, ht⟩) (fun q h => by cases h) dX12_fault_24
set_option maxHeartbeats 4000000 in
set_option maxRecDepth 100000 in
theorem c_X12_height (l : Launch) (D : va_G) (k : Nat → ClassId) (b : Nat → Nat) (p1 : Int32) : Met l yX12_height wsX12_height ({ frames := 2, cells := 0, slots := 0, locals := 46 }) (PreR D k [m0 k b, m1 k b] [.ref (b 0), .int p1]) (vp_Si (fun r => r = (-2000000000))) 0 0 (fun _ => False) := by
  refine Met.ofW (cc := cX12_height) (maxL := 2) (ret := (some .int)) (by decide) rfl ?_
  intro p e s m args below meth c s₁ B hml hv
  obtain ⟨rfl, hP, hK⟩ := hv
  have hx := B.exec
  have hb := B.bytes
  have hr := B.returns
  have hts := atoms_spec (ws := wsX12_height) B.pre
  have hown : s.vm.findClass RX12 = some m.cls := findClass_of_methodNamed B.named
  have hlocks := B.notSynchronized
  have hl := lv_entry ([.ref (b 0), .int p1]) (n := 2) (Nat.le_of_ble_eq_true rfl)
  rw [lg_entry_eq]
  generalize (lg_sl ([.ref (b 0), .int p1]) ++ List.replicate (2 - (lg_sl ([.ref (b 0), .int p1])).length) Slot.unset).toArray = ls at hl ⊢
  have hl : lv_has ls 2 [(0, .ref (b 0)), (1, .int p1)] := hl
  refine lv_aload_n hx hb dX12_height_0 rfl (lv_at hl 0 rfl) ?_
  refine lv_iload_n hx hb dX12_height_1 rfl (lv_at hl 1 rfl) ?_
  refine pvi (C := RX12) (As := [.int p1]) (rest := []) (wc := [m0 k b, m1 k b]) ⟨hx, hb, hml, hown, hts⟩ (c_X12_isPot l D k b p1) (cwV 1 hts gX12_height_X12_isPot rfl rfl rfl (by decide +kernel) ⟨Nat.le_of_ble_eq_true rfl, Nat.le_of_ble_eq_true rfl⟩) hP hK [0, 1] rfl 0 rfl rfl rfl rfl hl.1 rfl (Nat.le_of_ble_eq_true rfl) dX12_height_2 ⟨Nat.le_of_ble_eq_true rfl, Nat.le_of_ble_eq_true rfl⟩ (fun r1 hr1 => ?_)
  obtain rfl := hr1
  refine lv_if_eq (tgt := 22) hx hb dX12_height_5 (by decide) (fun _ => ?_) (fun h => absurd (by decide) h)
  refine lv_ldcw (own := RX12) (v := (-2000000000)) hx hb hown (hts (.constant RX12 302 (-2000000000)) (by decide +kernel)) dX12_height_22 ?_
  exact W.iret (v := (-2000000000)) hx hb hr (fun t ht hW => ⟨(-2000000000), rfl, rfl, ht⟩) (fun q h => by cases h) dX12_height_25
set_option maxHeartbeats 4000000 in
set_option maxRecDepth 100000 in
theorem c_X12_pipe (l : Launch) (D : va_G) (k : Nat → ClassId) (b : Nat → Nat) (p1 : Int32) (p2 : Int32) : Met l yX12_pipe wsX12_pipe ({ frames := 2, cells := 0, slots := 0, locals := 46 }) (PreR D k [m0 k b, m1 k b] [.ref (b 0), .int p1, .int p2]) (vp_Si (fun r => r = (-2000000000))) 0 0 (fun _ => False) := by
  refine Met.ofW (cc := cX12_pipe) (maxL := 3) (ret := (some .int)) (by decide) rfl ?_
  intro p e s m args below meth c s₁ B hml hv
  obtain ⟨rfl, hP, hK⟩ := hv
  have hx := B.exec
  have hb := B.bytes
  have hr := B.returns
  have hts := atoms_spec (ws := wsX12_pipe) B.pre
  have hown : s.vm.findClass RX12 = some m.cls := findClass_of_methodNamed B.named
  have hlocks := B.notSynchronized
  have hl := lv_entry ([.ref (b 0), .int p1, .int p2]) (n := 3) (Nat.le_of_ble_eq_true rfl)
  rw [lg_entry_eq]
  generalize (lg_sl ([.ref (b 0), .int p1, .int p2]) ++ List.replicate (3 - (lg_sl ([.ref (b 0), .int p1, .int p2])).length) Slot.unset).toArray = ls at hl ⊢
  have hl : lv_has ls 3 [(0, .ref (b 0)), (1, .int p1), (2, .int p2)] := hl
  refine lv_aload_n hx hb dX12_pipe_0 rfl (lv_at hl 0 rfl) ?_
  refine lv_iload_n hx hb dX12_pipe_1 rfl (lv_at hl 1 rfl) ?_
  refine pvi (C := RX12) (As := [.int p1]) (rest := []) (wc := [m0 k b, m1 k b]) ⟨hx, hb, hml, hown, hts⟩ (c_X12_isPipe l D k b p1) (cwV 1 hts gX12_pipe_X12_isPipe rfl rfl rfl (by decide +kernel) ⟨Nat.le_of_ble_eq_true rfl, Nat.le_of_ble_eq_true rfl⟩) hP hK [0, 1] rfl 0 rfl rfl rfl rfl hl.1 rfl (Nat.le_of_ble_eq_true rfl) dX12_pipe_2 ⟨Nat.le_of_ble_eq_true rfl, Nat.le_of_ble_eq_true rfl⟩ (fun r1 hr1 => ?_)
  obtain rfl := hr1
  refine lv_if_eq (tgt := 20) hx hb dX12_pipe_5 (by decide) (fun _ => ?_) (fun h => absurd (by decide) h)
  refine lv_ldcw (own := RX12) (v := (-2000000000)) hx hb hown (hts (.constant RX12 302 (-2000000000)) (by decide +kernel)) dX12_pipe_20 ?_
  exact W.iret (v := (-2000000000)) hx hb hr (fun t ht hW => ⟨(-2000000000), rfl, rfl, ht⟩) (fun q h => by cases h) dX12_pipe_23
set_option maxHeartbeats 4000000 in
set_option maxRecDepth 100000 in
theorem c_X12_bend (l : Launch) (D : va_G) (k : Nat → ClassId) (b : Nat → Nat) (p1 : Int32) (p2 : Int32) (p3 : Int32) : Met l yX12_bend wsX12_bend ({ frames := 2, cells := 0, slots := 0, locals := 46 }) (PreR D k [m0 k b, m1 k b] [.ref (b 0), .int p1, .int p2, .int p3]) (vp_Si (fun r => r = (-2000000000))) 0 0 (fun _ => False) := by
  refine Met.ofW (cc := cX12_bend) (maxL := 4) (ret := (some .int)) (by decide) rfl ?_
  intro p e s m args below meth c s₁ B hml hv
  obtain ⟨rfl, hP, hK⟩ := hv
  have hx := B.exec
  have hb := B.bytes
  have hr := B.returns
  have hts := atoms_spec (ws := wsX12_bend) B.pre
  have hown : s.vm.findClass RX12 = some m.cls := findClass_of_methodNamed B.named
  have hlocks := B.notSynchronized
  have hl := lv_entry ([.ref (b 0), .int p1, .int p2, .int p3]) (n := 4) (Nat.le_of_ble_eq_true rfl)
  rw [lg_entry_eq]
  generalize (lg_sl ([.ref (b 0), .int p1, .int p2, .int p3]) ++ List.replicate (4 - (lg_sl ([.ref (b 0), .int p1, .int p2, .int p3])).length) Slot.unset).toArray = ls at hl ⊢
  have hl : lv_has ls 4 [(0, .ref (b 0)), (1, .int p1), (2, .int p2), (3, .int p3)] := hl
  refine lv_aload_n hx hb dX12_bend_0 rfl (lv_at hl 0 rfl) ?_
  refine lv_iload_n hx hb dX12_bend_1 rfl (lv_at hl 1 rfl) ?_
  refine pvi (C := RX12) (As := [.int p1]) (rest := []) (wc := [m0 k b, m1 k b]) ⟨hx, hb, hml, hown, hts⟩ (c_X12_isPipe l D k b p1) (cwV 1 hts gX12_bend_X12_isPipe rfl rfl rfl (by decide +kernel) ⟨Nat.le_of_ble_eq_true rfl, Nat.le_of_ble_eq_true rfl⟩) hP hK [0, 1] rfl 0 rfl rfl rfl rfl hl.1 rfl (Nat.le_of_ble_eq_true rfl) dX12_bend_2 ⟨Nat.le_of_ble_eq_true rfl, Nat.le_of_ble_eq_true rfl⟩ (fun r1 hr1 => ?_)
  obtain rfl := hr1
  refine lv_if_eq (tgt := 20) hx hb dX12_bend_5 (by decide) (fun _ => ?_) (fun h => absurd (by decide) h)
  refine lv_ldcw (own := RX12) (v := (-2000000000)) hx hb hown (hts (.constant RX12 302 (-2000000000)) (by decide +kernel)) dX12_bend_20 ?_
  exact W.iret (v := (-2000000000)) hx hb hr (fun t ht hW => ⟨(-2000000000), rfl, rfl, ht⟩) (fun q h => by cases h) dX12_bend_23
set_option maxHeartbeats 4000000 in
set_option maxRecDepth 100000 in
theorem c_X12_need (l : Launch) (D : va_G) (k : Nat → ClassId) (b : Nat → Nat) (p1 : Int32) (p2 : Int32) : Met l yX12_need wsX12_need ({ frames := 2, cells := 0, slots := 0, locals := 46 }) (PreR D k [m0 k b, m1 k b] [.ref (b 0), .int p1, .int p2]) (vp_Sl (fun r => r = (-2))) 0 0 (fun _ => False) := by
  refine Met.ofW (cc := cX12_need) (maxL := 3) (ret := (some .long)) (by decide) rfl ?_
  intro p e s m args below meth c s₁ B hml hv
  obtain ⟨rfl, hP, hK⟩ := hv
  have hx := B.exec
  have hb := B.bytes
  have hr := B.returns
  have hts := atoms_spec (ws := wsX12_need) B.pre
  have hown : s.vm.findClass RX12 = some m.cls := findClass_of_methodNamed B.named
  have hlocks := B.notSynchronized
  have hl := lv_entry ([.ref (b 0), .int p1, .int p2]) (n := 3) (Nat.le_of_ble_eq_true rfl)
  rw [lg_entry_eq]
  generalize (lg_sl ([.ref (b 0), .int p1, .int p2]) ++ List.replicate (3 - (lg_sl ([.ref (b 0), .int p1, .int p2])).length) Slot.unset).toArray = ls at hl ⊢
  have hl : lv_has ls 3 [(0, .ref (b 0)), (1, .int p1), (2, .int p2)] := hl
  refine lv_aload_n hx hb dX12_need_0 rfl (lv_at hl 0 rfl) ?_
  refine lv_iload_n hx hb dX12_need_1 rfl (lv_at hl 1 rfl) ?_
  refine pvi (C := RX12) (As := [.int p1]) (rest := []) (wc := [m0 k b, m1 k b]) ⟨hx, hb, hml, hown, hts⟩ (c_X12_isPipe l D k b p1) (cwV 1 hts gX12_need_X12_isPipe rfl rfl rfl (by decide +kernel) ⟨Nat.le_of_ble_eq_true rfl, Nat.le_of_ble_eq_true rfl⟩) hP hK [0, 1] rfl 0 rfl rfl rfl rfl hl.1 rfl (Nat.le_of_ble_eq_true rfl) dX12_need_2 ⟨Nat.le_of_ble_eq_true rfl, Nat.le_of_ble_eq_true rfl⟩ (fun r1 hr1 => ?_)
  obtain rfl := hr1
  refine lv_if_eq (tgt := 24) hx hb dX12_need_5 (by decide) (fun _ => ?_) (fun h => absurd (by decide) h)
  refine lv_ldc2 (own := RX12) (v := (-2)) hx hb hown (hts (.constantLong RX12 350 (-2)) (by decide +kernel)) dX12_need_24 ?_
  exact W.lret (v := (-2)) hx hb hr (fun t ht hW => ⟨(-2), rfl, rfl, ht⟩) (fun q h => by cases h) dX12_need_27
set_option maxHeartbeats 4000000 in
set_option maxRecDepth 100000 in
theorem c_X12_load (l : Launch) (D : va_G) (k : Nat → ClassId) (b : Nat → Nat) (p1 : Int32) (p2 : Int32) : Met l yX12_load wsX12_load ({ frames := 2, cells := 0, slots := 0, locals := 46 }) (PreR D k [m0 k b, m1 k b] [.ref (b 0), .int p1, .int p2]) (vp_Si (fun r => r = (-2))) 0 0 (fun _ => False) := by
  refine Met.ofW (cc := cX12_load) (maxL := 3) (ret := (some .int)) (by decide) rfl ?_
  intro p e s m args below meth c s₁ B hml hv
  obtain ⟨rfl, hP, hK⟩ := hv
  have hx := B.exec
  have hb := B.bytes
  have hr := B.returns
  have hts := atoms_spec (ws := wsX12_load) B.pre
  have hown : s.vm.findClass RX12 = some m.cls := findClass_of_methodNamed B.named
  have hlocks := B.notSynchronized
  have hl := lv_entry ([.ref (b 0), .int p1, .int p2]) (n := 3) (Nat.le_of_ble_eq_true rfl)
  rw [lg_entry_eq]
  generalize (lg_sl ([.ref (b 0), .int p1, .int p2]) ++ List.replicate (3 - (lg_sl ([.ref (b 0), .int p1, .int p2])).length) Slot.unset).toArray = ls at hl ⊢
  have hl : lv_has ls 3 [(0, .ref (b 0)), (1, .int p1), (2, .int p2)] := hl
  refine lv_aload_n hx hb dX12_load_0 rfl (lv_at hl 0 rfl) ?_
  refine lv_iload_n hx hb dX12_load_1 rfl (lv_at hl 1 rfl) ?_
  refine pvi (C := RX12) (As := [.int p1]) (rest := []) (wc := [m0 k b, m1 k b]) ⟨hx, hb, hml, hown, hts⟩ (c_X12_isPipe l D k b p1) (cwV 1 hts gX12_load_X12_isPipe rfl rfl rfl (by decide +kernel) ⟨Nat.le_of_ble_eq_true rfl, Nat.le_of_ble_eq_true rfl⟩) hP hK [0, 1] rfl 0 rfl rfl rfl rfl hl.1 rfl (Nat.le_of_ble_eq_true rfl) dX12_load_2 ⟨Nat.le_of_ble_eq_true rfl, Nat.le_of_ble_eq_true rfl⟩ (fun r1 hr1 => ?_)
  obtain rfl := hr1
  refine lv_if_eq (tgt := 25) hx hb dX12_load_5 (by decide) (fun _ => ?_) (fun h => absurd (by decide) h)
  refine lv_bipush (v := (-2)) hx hb dX12_load_25 (by decide) ?_
  exact W.iret (v := (-2)) hx hb hr (fun t ht hW => ⟨(-2), rfl, rfl, ht⟩) (fun q h => by cases h) dX12_load_27
set_option maxHeartbeats 4000000 in
set_option maxRecDepth 100000 in
theorem c_X12_bows (l : Launch) (D : va_G) (k : Nat → ClassId) (b : Nat → Nat) (p1 : Int32) : Met l yX12_bows wsX12_bows ({ frames := 2, cells := 0, slots := 0, locals := 46 }) (PreR D k [m0 k b, m1 k b] [.ref (b 0), .int p1]) (vp_Si (fun r => r = (-2))) 0 0 (fun _ => False) := by
  refine Met.ofW (cc := cX12_bows) (maxL := 2) (ret := (some .int)) (by decide) rfl ?_
  intro p e s m args below meth c s₁ B hml hv
  obtain ⟨rfl, hP, hK⟩ := hv
  have hx := B.exec
  have hb := B.bytes
  have hr := B.returns
  have hts := atoms_spec (ws := wsX12_bows) B.pre
  have hown : s.vm.findClass RX12 = some m.cls := findClass_of_methodNamed B.named
  have hlocks := B.notSynchronized
  have hl := lv_entry ([.ref (b 0), .int p1]) (n := 2) (Nat.le_of_ble_eq_true rfl)
  rw [lg_entry_eq]
  generalize (lg_sl ([.ref (b 0), .int p1]) ++ List.replicate (2 - (lg_sl ([.ref (b 0), .int p1])).length) Slot.unset).toArray = ls at hl ⊢
  have hl : lv_has ls 2 [(0, .ref (b 0)), (1, .int p1)] := hl
  refine lv_aload_n hx hb dX12_bows_0 rfl (lv_at hl 0 rfl) ?_
  refine lv_iload_n hx hb dX12_bows_1 rfl (lv_at hl 1 rfl) ?_
  refine pvi (C := RX12) (As := [.int p1]) (rest := []) (wc := [m0 k b, m1 k b]) ⟨hx, hb, hml, hown, hts⟩ (c_X12_isPipe l D k b p1) (cwV 1 hts gX12_bows_X12_isPipe rfl rfl rfl (by decide +kernel) ⟨Nat.le_of_ble_eq_true rfl, Nat.le_of_ble_eq_true rfl⟩) hP hK [0, 1] rfl 0 rfl rfl rfl rfl hl.1 rfl (Nat.le_of_ble_eq_true rfl) dX12_bows_2 ⟨Nat.le_of_ble_eq_true rfl, Nat.le_of_ble_eq_true rfl⟩ (fun r1 hr1 => ?_)
  obtain rfl := hr1
  refine lv_if_eq (tgt := 16) hx hb dX12_bows_5 (by decide) (fun _ => ?_) (fun h => absurd (by decide) h)
  refine lv_bipush (v := (-2)) hx hb dX12_bows_16 (by decide) ?_
  exact W.iret (v := (-2)) hx hb hr (fun t ht hW => ⟨(-2), rfl, rfl, ht⟩) (fun q h => by cases h) dX12_bows_18
set_option maxHeartbeats 4000000 in
set_option maxRecDepth 100000 in
theorem c_X12_press (l : Launch) (D : va_G) (k : Nat → ClassId) (b : Nat → Nat) (p1 : Int32) : Met l yX12_press wsX12_press ({ frames := 2, cells := 0, slots := 0, locals := 46 }) (PreR D k [m0 k b, m1 k b] [.ref (b 0), .int p1]) (vp_Si (fun r => r = (-2))) 0 0 (fun _ => False) := by
  refine Met.ofW (cc := cX12_press) (maxL := 2) (ret := (some .int)) (by decide) rfl ?_
  intro p e s m args below meth c s₁ B hml hv
  obtain ⟨rfl, hP, hK⟩ := hv
  have hx := B.exec
  have hb := B.bytes
  have hr := B.returns
  have hts := atoms_spec (ws := wsX12_press) B.pre
  have hown : s.vm.findClass RX12 = some m.cls := findClass_of_methodNamed B.named
  have hlocks := B.notSynchronized
  have hl := lv_entry ([.ref (b 0), .int p1]) (n := 2) (Nat.le_of_ble_eq_true rfl)
  rw [lg_entry_eq]
  generalize (lg_sl ([.ref (b 0), .int p1]) ++ List.replicate (2 - (lg_sl ([.ref (b 0), .int p1])).length) Slot.unset).toArray = ls at hl ⊢
  have hl : lv_has ls 2 [(0, .ref (b 0)), (1, .int p1)] := hl
  refine lv_aload_n hx hb dX12_press_0 rfl (lv_at hl 0 rfl) ?_
  refine lv_iload_n hx hb dX12_press_1 rfl (lv_at hl 1 rfl) ?_
  refine pvi (C := RX12) (As := [.int p1]) (rest := []) (wc := [m0 k b, m1 k b]) ⟨hx, hb, hml, hown, hts⟩ (c_X12_isHour l D k b p1) (cwV 1 hts gX12_press_X12_isHour rfl rfl rfl (by decide +kernel) ⟨Nat.le_of_ble_eq_true rfl, Nat.le_of_ble_eq_true rfl⟩) hP hK [0, 1] rfl 0 rfl rfl rfl rfl hl.1 rfl (Nat.le_of_ble_eq_true rfl) dX12_press_2 ⟨Nat.le_of_ble_eq_true rfl, Nat.le_of_ble_eq_true rfl⟩ (fun r1 hr1 => ?_)
  obtain rfl := hr1
  refine lv_if_eq (tgt := 21) hx hb dX12_press_5 (by decide) (fun _ => ?_) (fun h => absurd (by decide) h)
  refine lv_bipush (v := (-2)) hx hb dX12_press_21 (by decide) ?_
  exact W.iret (v := (-2)) hx hb hr (fun t ht hW => ⟨(-2), rfl, rfl, ht⟩) (fun q h => by cases h) dX12_press_23
set_option maxHeartbeats 4000000 in
set_option maxRecDepth 100000 in
theorem c_X12_wear (l : Launch) (D : va_G) (k : Nat → ClassId) (b : Nat → Nat) (p1 : Int32) (p2 : Int32) : Met l yX12_wear wsX12_wear ({ frames := 2, cells := 0, slots := 0, locals := 46 }) (PreR D k [m0 k b, m1 k b] [.ref (b 0), .int p1, .int p2]) (vp_Si (fun r => r = (-2))) 0 0 (fun _ => False) := by
  refine Met.ofW (cc := cX12_wear) (maxL := 5) (ret := (some .int)) (by decide) rfl ?_
  intro p e s m args below meth c s₁ B hml hv
  obtain ⟨rfl, hP, hK⟩ := hv
  have hx := B.exec
  have hb := B.bytes
  have hr := B.returns
  have hts := atoms_spec (ws := wsX12_wear) B.pre
  have hown : s.vm.findClass RX12 = some m.cls := findClass_of_methodNamed B.named
  have hlocks := B.notSynchronized
  have hl := lv_entry ([.ref (b 0), .int p1, .int p2]) (n := 5) (Nat.le_of_ble_eq_true rfl)
  rw [lg_entry_eq]
  generalize (lg_sl ([.ref (b 0), .int p1, .int p2]) ++ List.replicate (5 - (lg_sl ([.ref (b 0), .int p1, .int p2])).length) Slot.unset).toArray = ls at hl ⊢
  have hl : lv_has ls 5 [(0, .ref (b 0)), (1, .int p1), (2, .int p2)] := hl
  refine lv_aload_n hx hb dX12_wear_0 rfl (lv_at hl 0 rfl) ?_
  refine lv_iload_n hx hb dX12_wear_1 rfl (lv_at hl 1 rfl) ?_
  refine pvi (C := RX12) (As := [.int p1]) (rest := []) (wc := [m0 k b, m1 k b]) ⟨hx, hb, hml, hown, hts⟩ (c_X12_isPipe l D k b p1) (cwV 1 hts gX12_wear_X12_isPipe rfl rfl rfl (by decide +kernel) ⟨Nat.le_of_ble_eq_true rfl, Nat.le_of_ble_eq_true rfl⟩) hP hK [0, 1] rfl 0 rfl rfl rfl rfl hl.1 rfl (Nat.le_of_ble_eq_true rfl) dX12_wear_2 ⟨Nat.le_of_ble_eq_true rfl, Nat.le_of_ble_eq_true rfl⟩ (fun r1 hr1 => ?_)
  obtain rfl := hr1
  refine lv_if_eq (tgt := 16) hx hb dX12_wear_5 (by decide) (fun _ => ?_) (fun h => absurd (by decide) h)
  refine lv_bipush (v := (-2)) hx hb dX12_wear_16 (by decide) ?_
  exact W.iret (v := (-2)) hx hb hr (fun t ht hW => ⟨(-2), rfl, rfl, ht⟩) (fun q h => by cases h) dX12_wear_18
set_option maxHeartbeats 4000000 in
set_option maxRecDepth 100000 in
theorem c_X12_goes (l : Launch) (D : va_G) (k : Nat → ClassId) (b : Nat → Nat) (p1 : Int32) : Met l yX12_goes wsX12_goes ({ frames := 2, cells := 0, slots := 0, locals := 46 }) (PreR D k [m0 k b, m1 k b] [.ref (b 0), .int p1]) (vp_Si (fun r => r = (-2))) 0 0 (fun _ => False) := by
  refine Met.ofW (cc := cX12_goes) (maxL := 2) (ret := (some .int)) (by decide) rfl ?_
  intro p e s m args below meth c s₁ B hml hv
  obtain ⟨rfl, hP, hK⟩ := hv
  have hx := B.exec
  have hb := B.bytes
  have hr := B.returns
  have hts := atoms_spec (ws := wsX12_goes) B.pre
  have hown : s.vm.findClass RX12 = some m.cls := findClass_of_methodNamed B.named
  have hlocks := B.notSynchronized
  have hl := lv_entry ([.ref (b 0), .int p1]) (n := 2) (Nat.le_of_ble_eq_true rfl)
  rw [lg_entry_eq]
  generalize (lg_sl ([.ref (b 0), .int p1]) ++ List.replicate (2 - (lg_sl ([.ref (b 0), .int p1])).length) Slot.unset).toArray = ls at hl ⊢
  have hl : lv_has ls 2 [(0, .ref (b 0)), (1, .int p1)] := hl
  refine lv_aload_n hx hb dX12_goes_0 rfl (lv_at hl 0 rfl) ?_
  refine lv_iload_n hx hb dX12_goes_1 rfl (lv_at hl 1 rfl) ?_
  refine pvi (C := RX12) (As := [.int p1]) (rest := []) (wc := [m0 k b, m1 k b]) ⟨hx, hb, hml, hown, hts⟩ (c_X12_isPipe l D k b p1) (cwV 1 hts gX12_goes_X12_isPipe rfl rfl rfl (by decide +kernel) ⟨Nat.le_of_ble_eq_true rfl, Nat.le_of_ble_eq_true rfl⟩) hP hK [0, 1] rfl 0 rfl rfl rfl rfl hl.1 rfl (Nat.le_of_ble_eq_true rfl) dX12_goes_2 ⟨Nat.le_of_ble_eq_true rfl, Nat.le_of_ble_eq_true rfl⟩ (fun r1 hr1 => ?_)
  obtain rfl := hr1
  refine lv_if_eq (tgt := 16) hx hb dX12_goes_5 (by decide) (fun _ => ?_) (fun h => absurd (by decide) h)
  refine lv_bipush (v := (-2)) hx hb dX12_goes_16 (by decide) ?_
  exact W.iret (v := (-2)) hx hb hr (fun t ht hW => ⟨(-2), rfl, rfl, ht⟩) (fun q h => by cases h) dX12_goes_18
set_option maxHeartbeats 4000000 in
set_option maxRecDepth 100000 in
theorem c_X12_why (l : Launch) (D : va_G) (k : Nat → ClassId) (b : Nat → Nat) (p1 : Int32) : Met l yX12_why wsX12_why ({ frames := 2, cells := 0, slots := 0, locals := 46 }) (PreR D k [m0 k b, m1 k b] [.ref (b 0), .int p1]) (vp_Si (fun r => r = (-2))) 0 0 (fun _ => False) := by
  refine Met.ofW (cc := cX12_why) (maxL := 2) (ret := (some .int)) (by decide) rfl ?_
  intro p e s m args below meth c s₁ B hml hv
  obtain ⟨rfl, hP, hK⟩ := hv
  have hx := B.exec
  have hb := B.bytes
  have hr := B.returns
  have hts := atoms_spec (ws := wsX12_why) B.pre
  have hown : s.vm.findClass RX12 = some m.cls := findClass_of_methodNamed B.named
  have hlocks := B.notSynchronized
  have hl := lv_entry ([.ref (b 0), .int p1]) (n := 2) (Nat.le_of_ble_eq_true rfl)
  rw [lg_entry_eq]
  generalize (lg_sl ([.ref (b 0), .int p1]) ++ List.replicate (2 - (lg_sl ([.ref (b 0), .int p1])).length) Slot.unset).toArray = ls at hl ⊢
  have hl : lv_has ls 2 [(0, .ref (b 0)), (1, .int p1)] := hl
  refine lv_aload_n hx hb dX12_why_0 rfl (lv_at hl 0 rfl) ?_
  refine lv_iload_n hx hb dX12_why_1 rfl (lv_at hl 1 rfl) ?_
  refine pvi (C := RX12) (As := [.int p1]) (rest := []) (wc := [m0 k b, m1 k b]) ⟨hx, hb, hml, hown, hts⟩ (c_X12_isPipe l D k b p1) (cwV 1 hts gX12_why_X12_isPipe rfl rfl rfl (by decide +kernel) ⟨Nat.le_of_ble_eq_true rfl, Nat.le_of_ble_eq_true rfl⟩) hP hK [0, 1] rfl 0 rfl rfl rfl rfl hl.1 rfl (Nat.le_of_ble_eq_true rfl) dX12_why_2 ⟨Nat.le_of_ble_eq_true rfl, Nat.le_of_ble_eq_true rfl⟩ (fun r1 hr1 => ?_)
  obtain rfl := hr1
  refine lv_if_ne (tgt := 11) hx hb dX12_why_5 (by decide) (fun h => absurd (by decide) h) (fun _ => ?_)
  refine lv_bipush (v := (-2)) hx hb dX12_why_8 (by decide) ?_
  exact W.iret (v := (-2)) hx hb hr (fun t ht hW => ⟨(-2), rfl, rfl, ht⟩) (fun q h => by cases h) dX12_why_10
set_option maxHeartbeats 4000000 in
set_option maxRecDepth 100000 in
theorem c_X12_bursts (l : Launch) (D : va_G) (k : Nat → ClassId) (b : Nat → Nat) (p1 : Int32) : Met l yX12_bursts wsX12_bursts ({ frames := 2, cells := 0, slots := 0, locals := 46 }) (PreR D k [m0 k b, m1 k b] [.ref (b 0), .int p1]) (vp_Si (fun r => r = (-2))) 0 0 (fun _ => False) := by
  refine Met.ofW (cc := cX12_bursts) (maxL := 2) (ret := (some .int)) (by decide) rfl ?_
  intro p e s m args below meth c s₁ B hml hv
  obtain ⟨rfl, hP, hK⟩ := hv
  have hx := B.exec
  have hb := B.bytes
  have hr := B.returns
  have hts := atoms_spec (ws := wsX12_bursts) B.pre
  have hown : s.vm.findClass RX12 = some m.cls := findClass_of_methodNamed B.named
  have hlocks := B.notSynchronized
  have hl := lv_entry ([.ref (b 0), .int p1]) (n := 2) (Nat.le_of_ble_eq_true rfl)
  rw [lg_entry_eq]
  generalize (lg_sl ([.ref (b 0), .int p1]) ++ List.replicate (2 - (lg_sl ([.ref (b 0), .int p1])).length) Slot.unset).toArray = ls at hl ⊢
  have hl : lv_has ls 2 [(0, .ref (b 0)), (1, .int p1)] := hl
  refine lv_aload_n hx hb dX12_bursts_0 rfl (lv_at hl 0 rfl) ?_
  refine lv_iload_n hx hb dX12_bursts_1 rfl (lv_at hl 1 rfl) ?_
  refine pvi (C := RX12) (As := [.int p1]) (rest := []) (wc := [m0 k b, m1 k b]) ⟨hx, hb, hml, hown, hts⟩ (c_X12_isPot l D k b p1) (cwV 1 hts gX12_bursts_X12_isPot rfl rfl rfl (by decide +kernel) ⟨Nat.le_of_ble_eq_true rfl, Nat.le_of_ble_eq_true rfl⟩) hP hK [0, 1] rfl 0 rfl rfl rfl rfl hl.1 rfl (Nat.le_of_ble_eq_true rfl) dX12_bursts_2 ⟨Nat.le_of_ble_eq_true rfl, Nat.le_of_ble_eq_true rfl⟩ (fun r1 hr1 => ?_)
  obtain rfl := hr1
  refine lv_if_eq (tgt := 16) hx hb dX12_bursts_5 (by decide) (fun _ => ?_) (fun h => absurd (by decide) h)
  refine lv_bipush (v := (-2)) hx hb dX12_bursts_16 (by decide) ?_
  exact W.iret (v := (-2)) hx hb hr (fun t ht hW => ⟨(-2), rfl, rfl, ht⟩) (fun q h => by cases h) dX12_bursts_18
set_option maxHeartbeats 4000000 in
set_option maxRecDepth 100000 in
theorem c_X12_firstBut (l : Launch) (D : va_G) (k : Nat → ClassId) (b : Nat → Nat) (p1 : Int32) (p2 : Int32) : Met l yX12_firstBut wsX12_firstBut ({ frames := 0, cells := 0, slots := 0, locals := 0 }) (PreR D k [m0 k b, m1 k b] [.ref (b 0), .int p1, .int p2]) (vp_Si (fun r => r = (-1))) 0 0 (fun _ => False) := by
  refine Met.ofW (cc := cX12_firstBut) (maxL := 7) (ret := (some .int)) (by decide) rfl ?_
  intro p e s m args below meth c s₁ B hml hv
  obtain ⟨rfl, hP, hK⟩ := hv
  have hx := B.exec
  have hb := B.bytes
  have hr := B.returns
  have hts := atoms_spec (ws := wsX12_firstBut) B.pre
  have hown : s.vm.findClass RX12 = some m.cls := findClass_of_methodNamed B.named
  have hlocks := B.notSynchronized
  have i_X12 : ∀ w ∈ wsX120, w ∈ wsX12_firstBut := by decide +kernel
  have hl := lv_entry ([.ref (b 0), .int p1, .int p2]) (n := 7) (Nat.le_of_ble_eq_true rfl)
  rw [lg_entry_eq]
  generalize (lg_sl ([.ref (b 0), .int p1, .int p2]) ++ List.replicate (7 - (lg_sl ([.ref (b 0), .int p1, .int p2])).length) Slot.unset).toArray = ls at hl ⊢
  have hl : lv_has ls 7 [(0, .ref (b 0)), (1, .int p1), (2, .int p2)] := hl
  refine lv_iconst (v := (-1)) hx hb dX12_firstBut_0 (by decide) ?_
  refine lv_istore_n (lv' := [(3, .int (-1)), (0, .ref (b 0)), (1, .int p1), (2, .int p2)]) hx hb dX12_firstBut_1 rfl hl (by decide) rfl (fun ls hl => ?_)
  refine lv_iconst (v := (-1)) hx hb dX12_firstBut_2 (by decide) ?_
  refine lv_istore (lv' := [(4, .int (-1)), (3, .int (-1)), (0, .ref (b 0)), (1, .int p1), (2, .int p2)]) hx hb dX12_firstBut_3 hl (by decide) rfl (fun ls hl => ?_)
  refine lv_iconst (v := 0) hx hb dX12_firstBut_5 (by decide) ?_
  refine lv_istore (lv' := [(5, .int 0), (4, .int (-1)), (3, .int (-1)), (0, .ref (b 0)), (1, .int p1), (2, .int p2)]) hx hb dX12_firstBut_6 hl (by decide) rfl (fun ls hl => ?_)
  refine lv_iload hx hb dX12_firstBut_8 (lv_at hl 0 rfl) ?_
  refine lv_aload_n hx hb dX12_firstBut_10 rfl (lv_at hl 3 rfl) ?_
  refine va_get (D := D) (ci := 12) (v := .ref (b 1)) (C := RX12) (T := TX12) (N := 34) hx hb hts i_X12 hown hK hP 0 rfl rfl 1 (by decide) (hts (.fieldLink RX12 13 "BellowsRowModel" "world" "[I") (by decide +kernel)) (fun _ h9 => h9) rfl dX12_firstBut_11 ?_
  refine lv_iconst (v := 2) hx hb dX12_firstBut_14 (by decide) ?_
  refine va_iald hx hb hK hP 1 1 rfl rfl (vp_in_iff.mpr (by decide)) dX12_firstBut_15 ?_
  refine W.eq (g2 := F0 m 16 ls [.int 0, .int 0]) rfl ?_
  refine lv_icmp_ge (tgt := 68) hx hb dX12_firstBut_16 (by decide) (fun _ => ?_) (fun h => absurd (by decide) h)
  refine lv_iconst (v := 0) hx hb dX12_firstBut_68 (by decide) ?_
  refine lv_istore (lv' := [(5, .int 0), (4, .int (-1)), (3, .int (-1)), (0, .ref (b 0)), (1, .int p1), (2, .int p2)]) hx hb dX12_firstBut_69 hl (by decide) rfl (fun ls hl => ?_)
  refine lv_iload hx hb dX12_firstBut_71 (lv_at hl 0 rfl) ?_
  refine lv_aload_n hx hb dX12_firstBut_73 rfl (lv_at hl 3 rfl) ?_
  refine va_get (D := D) (ci := 12) (v := .ref (b 1)) (C := RX12) (T := TX12) (N := 34) hx hb hts i_X12 hown hK hP 0 rfl rfl 1 (by decide) (hts (.fieldLink RX12 13 "BellowsRowModel" "world" "[I") (by decide +kernel)) (fun _ h9 => h9) rfl dX12_firstBut_74 ?_
  refine lv_iconst (v := 1) hx hb dX12_firstBut_77 (by decide) ?_
  refine va_iald hx hb hK hP 1 1 rfl rfl (vp_in_iff.mpr (by decide)) dX12_firstBut_78 ?_
  refine W.eq (g2 := F0 m 79 ls [.int 0, .int 0]) rfl ?_
  refine lv_icmp_ge (tgt := 137) hx hb dX12_firstBut_79 (by decide) (fun _ => ?_) (fun h => absurd (by decide) h)
  refine lv_iload_n hx hb dX12_firstBut_137 rfl (lv_at hl 5 rfl) ?_
  refine lv_if_ne (tgt := 145) hx hb dX12_firstBut_138 (by decide) (fun c1 => ?_) (fun c1 => ?_)
  · refine lv_iload_n hx hb dX12_firstBut_145 rfl (lv_at hl 5 rfl) ?_
    refine lv_iconst (v := 1) hx hb dX12_firstBut_146 (by decide) ?_
    refine lv_icmp_ne (tgt := 155) hx hb dX12_firstBut_147 (by decide) (fun c2 => ?_) (fun c2 => ?_)
    · refine lv_iconst (v := (-1)) hx hb dX12_firstBut_155 (by decide) ?_
      exact W.iret (v := (-1)) hx hb hr (fun t ht hW => ⟨(-1), rfl, rfl, ht⟩) (fun q h => by cases h) dX12_firstBut_156
    · refine lv_iload hx hb dX12_firstBut_150 (lv_at hl 1 rfl) ?_
      refine lv_goto (tgt := 156) hx hb dX12_firstBut_152 (by decide) ?_
      exact W.iret (v := (-1)) hx hb hr (fun t ht hW => ⟨(-1), rfl, rfl, ht⟩) (fun q h => by cases h) dX12_firstBut_156
  · refine lv_iload_n hx hb dX12_firstBut_141 rfl (lv_at hl 2 rfl) ?_
    refine lv_goto (tgt := 156) hx hb dX12_firstBut_142 (by decide) ?_
    exact W.iret (v := (-1)) hx hb hr (fun t ht hW => ⟨(-1), rfl, rfl, ht⟩) (fun q h => by cases h) dX12_firstBut_156
set_option maxHeartbeats 4000000 in
set_option maxRecDepth 100000 in
theorem c_X12_first (l : Launch) (D : va_G) (k : Nat → ClassId) (b : Nat → Nat) (p1 : Int32) : Met l yX12_first wsX12_first ({ frames := 1, cells := 0, slots := 0, locals := 26 }) (PreR D k [m0 k b, m1 k b] [.ref (b 0), .int p1]) (vp_Si (fun r => r = (-1))) 0 0 (fun _ => False) := by
  refine Met.ofW (cc := cX12_first) (maxL := 2) (ret := (some .int)) (by decide) rfl ?_
  intro p e s m args below meth c s₁ B hml hv
  obtain ⟨rfl, hP, hK⟩ := hv
  have hx := B.exec
  have hb := B.bytes
  have hr := B.returns
  have hts := atoms_spec (ws := wsX12_first) B.pre
  have hown : s.vm.findClass RX12 = some m.cls := findClass_of_methodNamed B.named
  have hlocks := B.notSynchronized
  have hl := lv_entry ([.ref (b 0), .int p1]) (n := 2) (Nat.le_of_ble_eq_true rfl)
  rw [lg_entry_eq]
  generalize (lg_sl ([.ref (b 0), .int p1]) ++ List.replicate (2 - (lg_sl ([.ref (b 0), .int p1])).length) Slot.unset).toArray = ls at hl ⊢
  have hl : lv_has ls 2 [(0, .ref (b 0)), (1, .int p1)] := hl
  refine lv_aload_n hx hb dX12_first_0 rfl (lv_at hl 0 rfl) ?_
  refine lv_iconst (v := (-1)) hx hb dX12_first_1 (by decide) ?_
  refine lv_iload_n hx hb dX12_first_2 rfl (lv_at hl 1 rfl) ?_
  refine pvi (C := RX12) (As := [.int (-1), .int p1]) (rest := []) (wc := [m0 k b, m1 k b]) ⟨hx, hb, hml, hown, hts⟩ (c_X12_firstBut l D k b (-1) p1) (cwV 2 hts gX12_first_X12_firstBut rfl rfl rfl (by decide +kernel) ⟨Nat.le_of_ble_eq_true rfl, Nat.le_of_ble_eq_true rfl⟩) hP hK [0, 1] rfl 0 rfl rfl rfl rfl hl.1 rfl (Nat.le_of_ble_eq_true rfl) dX12_first_3 ⟨Nat.le_of_ble_eq_true rfl, Nat.le_of_ble_eq_true rfl⟩ (fun r1 hr1 => ?_)
  obtain rfl := hr1
  exact W.iret (v := (-1)) hx hb hr (fun t ht hW => ⟨(-1), rfl, rfl, ht⟩) (fun q h => by cases h) dX12_first_6
set_option maxHeartbeats 4000000 in
set_option maxRecDepth 100000 in
theorem c_X12_next (l : Launch) (D : va_G) (k : Nat → ClassId) (b : Nat → Nat) (p1 : Int32) (p2 : Int32) : Met l yX12_next wsX12_next ({ frames := 2, cells := 0, slots := 0, locals := 46 }) (PreR D k [m0 k b, m1 k b] [.ref (b 0), .int p1, .int p2]) (vp_Si (fun r => r = (-2))) 0 0 (fun _ => False) := by
  refine Met.ofW (cc := cX12_next) (maxL := 3) (ret := (some .int)) (by decide) rfl ?_
  intro p e s m args below meth c s₁ B hml hv
  obtain ⟨rfl, hP, hK⟩ := hv
  have hx := B.exec
  have hb := B.bytes
  have hr := B.returns
  have hts := atoms_spec (ws := wsX12_next) B.pre
  have hown : s.vm.findClass RX12 = some m.cls := findClass_of_methodNamed B.named
  have hlocks := B.notSynchronized
  have hl := lv_entry ([.ref (b 0), .int p1, .int p2]) (n := 3) (Nat.le_of_ble_eq_true rfl)
  rw [lg_entry_eq]
  generalize (lg_sl ([.ref (b 0), .int p1, .int p2]) ++ List.replicate (3 - (lg_sl ([.ref (b 0), .int p1, .int p2])).length) Slot.unset).toArray = ls at hl ⊢
  have hl : lv_has ls 3 [(0, .ref (b 0)), (1, .int p1), (2, .int p2)] := hl
  refine lv_aload_n hx hb dX12_next_0 rfl (lv_at hl 0 rfl) ?_
  refine lv_iload_n hx hb dX12_next_1 rfl (lv_at hl 1 rfl) ?_
  refine pvi (C := RX12) (As := [.int p1]) (rest := []) (wc := [m0 k b, m1 k b]) ⟨hx, hb, hml, hown, hts⟩ (c_X12_isPipe l D k b p1) (cwV 1 hts gX12_next_X12_isPipe rfl rfl rfl (by decide +kernel) ⟨Nat.le_of_ble_eq_true rfl, Nat.le_of_ble_eq_true rfl⟩) hP hK [0, 1] rfl 0 rfl rfl rfl rfl hl.1 rfl (Nat.le_of_ble_eq_true rfl) dX12_next_2 ⟨Nat.le_of_ble_eq_true rfl, Nat.le_of_ble_eq_true rfl⟩ (fun r1 hr1 => ?_)
  obtain rfl := hr1
  refine lv_if_ne (tgt := 28) hx hb dX12_next_5 (by decide) (fun h => absurd (by decide) h) (fun _ => ?_)
  refine lv_iload_n hx hb dX12_next_8 rfl (lv_at hl 1 rfl) ?_
  refine lv_bipush (v := 100) hx hb dX12_next_9 (by decide) ?_
  refine lv_icmp_lt (tgt := 25) hx hb dX12_next_11 (by decide) (fun c2 => ?_) (fun c2 => ?_)
  · refine lv_bipush (v := (-2)) hx hb dX12_next_25 (by decide) ?_
    exact W.iret (v := (-2)) hx hb hr (fun t ht hW => ⟨(-2), rfl, rfl, ht⟩) (fun q h => by cases h) dX12_next_27
  · refine lv_aload_n hx hb dX12_next_14 rfl (lv_at hl 0 rfl) ?_
    refine lv_iload_n hx hb dX12_next_15 rfl (lv_at hl 1 rfl) ?_
    refine lv_bipush (v := 100) hx hb dX12_next_16 (by decide) ?_
    refine lv_isub hx hb dX12_next_18 ?_
    refine lv_topi (fun x3 ex3 => ?_)
    refine pvi (C := RX12) (As := [.int x3]) (rest := []) (wc := [m0 k b, m1 k b]) ⟨hx, hb, hml, hown, hts⟩ (c_X12_isPot l D k b x3) (cwV 1 hts gX12_next_X12_isPot rfl rfl rfl (by decide +kernel) ⟨Nat.le_of_ble_eq_true rfl, Nat.le_of_ble_eq_true rfl⟩) hP hK [0, 1] rfl 0 rfl rfl rfl rfl hl.1 rfl (Nat.le_of_ble_eq_true rfl) dX12_next_19 ⟨Nat.le_of_ble_eq_true rfl, Nat.le_of_ble_eq_true rfl⟩ (fun r4 hr4 => ?_)
    obtain rfl := hr4
    refine lv_if_ne (tgt := 28) hx hb dX12_next_22 (by decide) (fun h => absurd (by decide) h) (fun _ => ?_)
    refine lv_bipush (v := (-2)) hx hb dX12_next_25 (by decide) ?_
    exact W.iret (v := (-2)) hx hb hr (fun t ht hW => ⟨(-2), rfl, rfl, ht⟩) (fun q h => by cases h) dX12_next_27
set_option maxHeartbeats 4000000 in
set_option maxRecDepth 100000 in
theorem c_X12_under (l : Launch) (D : va_G) (k : Nat → ClassId) (b : Nat → Nat) (p1 : Int32) (p2 : Int32) : Met l yX12_under wsX12_under ({ frames := 2, cells := 0, slots := 0, locals := 46 }) (PreR D k [m0 k b, m1 k b] [.ref (b 0), .int p1, .int p2]) (vp_Si (fun r => r = (-2))) 0 0 (fun _ => False) := by
  refine Met.ofW (cc := cX12_under) (maxL := 3) (ret := (some .int)) (by decide) rfl ?_
  intro p e s m args below meth c s₁ B hml hv
  obtain ⟨rfl, hP, hK⟩ := hv
  have hx := B.exec
  have hb := B.bytes
  have hr := B.returns
  have hts := atoms_spec (ws := wsX12_under) B.pre
  have hown : s.vm.findClass RX12 = some m.cls := findClass_of_methodNamed B.named
  have hlocks := B.notSynchronized
  have hl := lv_entry ([.ref (b 0), .int p1, .int p2]) (n := 3) (Nat.le_of_ble_eq_true rfl)
  rw [lg_entry_eq]
  generalize (lg_sl ([.ref (b 0), .int p1, .int p2]) ++ List.replicate (3 - (lg_sl ([.ref (b 0), .int p1, .int p2])).length) Slot.unset).toArray = ls at hl ⊢
  have hl : lv_has ls 3 [(0, .ref (b 0)), (1, .int p1), (2, .int p2)] := hl
  refine lv_aload_n hx hb dX12_under_0 rfl (lv_at hl 0 rfl) ?_
  refine lv_iload_n hx hb dX12_under_1 rfl (lv_at hl 1 rfl) ?_
  refine pvi (C := RX12) (As := [.int p1]) (rest := []) (wc := [m0 k b, m1 k b]) ⟨hx, hb, hml, hown, hts⟩ (c_X12_isPipe l D k b p1) (cwV 1 hts gX12_under_X12_isPipe rfl rfl rfl (by decide +kernel) ⟨Nat.le_of_ble_eq_true rfl, Nat.le_of_ble_eq_true rfl⟩) hP hK [0, 1] rfl 0 rfl rfl rfl rfl hl.1 rfl (Nat.le_of_ble_eq_true rfl) dX12_under_2 ⟨Nat.le_of_ble_eq_true rfl, Nat.le_of_ble_eq_true rfl⟩ (fun r1 hr1 => ?_)
  obtain rfl := hr1
  refine lv_if_eq (tgt := 22) hx hb dX12_under_5 (by decide) (fun _ => ?_) (fun h => absurd (by decide) h)
  refine lv_bipush (v := (-2)) hx hb dX12_under_22 (by decide) ?_
  exact W.iret (v := (-2)) hx hb hr (fun t ht hW => ⟨(-2), rfl, rfl, ht⟩) (fun q h => by cases h) dX12_under_24
set_option maxHeartbeats 4000000 in
set_option maxRecDepth 100000 in
theorem c_X12_stay (l : Launch) (D : va_G) (k : Nat → ClassId) (b : Nat → Nat) (p1 : Int32) : Met l yX12_stay wsX12_stay ({ frames := 2, cells := 0, slots := 0, locals := 46 }) (PreR D k [m0 k b, m1 k b] [.ref (b 0), .int p1]) (vp_Si (fun r => r = (-2))) 0 0 (fun _ => False) := by
  refine Met.ofW (cc := cX12_stay) (maxL := 5) (ret := (some .int)) (by decide) rfl ?_
  intro p e s m args below meth c s₁ B hml hv
  obtain ⟨rfl, hP, hK⟩ := hv
  have hx := B.exec
  have hb := B.bytes
  have hr := B.returns
  have hts := atoms_spec (ws := wsX12_stay) B.pre
  have hown : s.vm.findClass RX12 = some m.cls := findClass_of_methodNamed B.named
  have hlocks := B.notSynchronized
  have hl := lv_entry ([.ref (b 0), .int p1]) (n := 5) (Nat.le_of_ble_eq_true rfl)
  rw [lg_entry_eq]
  generalize (lg_sl ([.ref (b 0), .int p1]) ++ List.replicate (5 - (lg_sl ([.ref (b 0), .int p1])).length) Slot.unset).toArray = ls at hl ⊢
  have hl : lv_has ls 5 [(0, .ref (b 0)), (1, .int p1)] := hl
  refine lv_aload_n hx hb dX12_stay_0 rfl (lv_at hl 0 rfl) ?_
  refine lv_iload_n hx hb dX12_stay_1 rfl (lv_at hl 1 rfl) ?_
  refine pvi (C := RX12) (As := [.int p1]) (rest := []) (wc := [m0 k b, m1 k b]) ⟨hx, hb, hml, hown, hts⟩ (c_X12_isPipe l D k b p1) (cwV 1 hts gX12_stay_X12_isPipe rfl rfl rfl (by decide +kernel) ⟨Nat.le_of_ble_eq_true rfl, Nat.le_of_ble_eq_true rfl⟩) hP hK [0, 1] rfl 0 rfl rfl rfl rfl hl.1 rfl (Nat.le_of_ble_eq_true rfl) dX12_stay_2 ⟨Nat.le_of_ble_eq_true rfl, Nat.le_of_ble_eq_true rfl⟩ (fun r1 hr1 => ?_)
  obtain rfl := hr1
  refine lv_if_ne (tgt := 11) hx hb dX12_stay_5 (by decide) (fun h => absurd (by decide) h) (fun _ => ?_)
  refine lv_bipush (v := (-2)) hx hb dX12_stay_8 (by decide) ?_
  exact W.iret (v := (-2)) hx hb hr (fun t ht hW => ⟨(-2), rfl, rfl, ht⟩) (fun q h => by cases h) dX12_stay_10
set_option maxHeartbeats 4000000 in
set_option maxRecDepth 100000 in
theorem c_X12_cap (l : Launch) (D : va_G) (k : Nat → ClassId) (b : Nat → Nat) (p1 : Int32) : Met l yX12_cap wsX12_cap ({ frames := 2, cells := 0, slots := 0, locals := 46 }) (PreR D k [m0 k b, m1 k b] [.ref (b 0), .int p1]) (vp_Si (fun r => r = (-2))) 0 0 (fun _ => False) := by
  refine Met.ofW (cc := cX12_cap) (maxL := 3) (ret := (some .int)) (by decide) rfl ?_
  intro p e s m args below meth c s₁ B hml hv
  obtain ⟨rfl, hP, hK⟩ := hv
  have hx := B.exec
  have hb := B.bytes
  have hr := B.returns
  have hts := atoms_spec (ws := wsX12_cap) B.pre
  have hown : s.vm.findClass RX12 = some m.cls := findClass_of_methodNamed B.named
  have hlocks := B.notSynchronized
  have hl := lv_entry ([.ref (b 0), .int p1]) (n := 3) (Nat.le_of_ble_eq_true rfl)
  rw [lg_entry_eq]
  generalize (lg_sl ([.ref (b 0), .int p1]) ++ List.replicate (3 - (lg_sl ([.ref (b 0), .int p1])).length) Slot.unset).toArray = ls at hl ⊢
  have hl : lv_has ls 3 [(0, .ref (b 0)), (1, .int p1)] := hl
  refine lv_aload_n hx hb dX12_cap_0 rfl (lv_at hl 0 rfl) ?_
  refine lv_iload_n hx hb dX12_cap_1 rfl (lv_at hl 1 rfl) ?_
  refine pvi (C := RX12) (As := [.int p1]) (rest := []) (wc := [m0 k b, m1 k b]) ⟨hx, hb, hml, hown, hts⟩ (c_X12_isPipe l D k b p1) (cwV 1 hts gX12_cap_X12_isPipe rfl rfl rfl (by decide +kernel) ⟨Nat.le_of_ble_eq_true rfl, Nat.le_of_ble_eq_true rfl⟩) hP hK [0, 1] rfl 0 rfl rfl rfl rfl hl.1 rfl (Nat.le_of_ble_eq_true rfl) dX12_cap_2 ⟨Nat.le_of_ble_eq_true rfl, Nat.le_of_ble_eq_true rfl⟩ (fun r1 hr1 => ?_)
  obtain rfl := hr1
  refine lv_if_ne (tgt := 11) hx hb dX12_cap_5 (by decide) (fun h => absurd (by decide) h) (fun _ => ?_)
  refine lv_bipush (v := (-2)) hx hb dX12_cap_8 (by decide) ?_
  exact W.iret (v := (-2)) hx hb hr (fun t ht hW => ⟨(-2), rfl, rfl, ht⟩) (fun q h => by cases h) dX12_cap_10
set_option maxHeartbeats 4000000 in
set_option maxRecDepth 100000 in
theorem c_X12_prop (l : Launch) (D : va_G) (k : Nat → ClassId) (b : Nat → Nat) (p1 : Int32) (p2 : Int32) : Met l yX12_prop wsX12_prop ({ frames := 2, cells := 0, slots := 0, locals := 46 }) (PreR D k [m0 k b, m1 k b] [.ref (b 0), .int p1, .int p2]) (vp_Si (fun r => r = (-2))) 0 0 (fun _ => False) := by
  refine Met.ofW (cc := cX12_prop) (maxL := 3) (ret := (some .int)) (by decide) rfl ?_
  intro p e s m args below meth c s₁ B hml hv
  obtain ⟨rfl, hP, hK⟩ := hv
  have hx := B.exec
  have hb := B.bytes
  have hr := B.returns
  have hts := atoms_spec (ws := wsX12_prop) B.pre
  have hown : s.vm.findClass RX12 = some m.cls := findClass_of_methodNamed B.named
  have hlocks := B.notSynchronized
  have hl := lv_entry ([.ref (b 0), .int p1, .int p2]) (n := 3) (Nat.le_of_ble_eq_true rfl)
  rw [lg_entry_eq]
  generalize (lg_sl ([.ref (b 0), .int p1, .int p2]) ++ List.replicate (3 - (lg_sl ([.ref (b 0), .int p1, .int p2])).length) Slot.unset).toArray = ls at hl ⊢
  have hl : lv_has ls 3 [(0, .ref (b 0)), (1, .int p1), (2, .int p2)] := hl
  refine lv_aload_n hx hb dX12_prop_0 rfl (lv_at hl 0 rfl) ?_
  refine lv_iload_n hx hb dX12_prop_1 rfl (lv_at hl 1 rfl) ?_
  refine pvi (C := RX12) (As := [.int p1]) (rest := []) (wc := [m0 k b, m1 k b]) ⟨hx, hb, hml, hown, hts⟩ (c_X12_isPipe l D k b p1) (cwV 1 hts gX12_prop_X12_isPipe rfl rfl rfl (by decide +kernel) ⟨Nat.le_of_ble_eq_true rfl, Nat.le_of_ble_eq_true rfl⟩) hP hK [0, 1] rfl 0 rfl rfl rfl rfl hl.1 rfl (Nat.le_of_ble_eq_true rfl) dX12_prop_2 ⟨Nat.le_of_ble_eq_true rfl, Nat.le_of_ble_eq_true rfl⟩ (fun r1 hr1 => ?_)
  obtain rfl := hr1
  refine lv_if_eq (tgt := 27) hx hb dX12_prop_5 (by decide) (fun _ => ?_) (fun h => absurd (by decide) h)
  refine lv_bipush (v := (-2)) hx hb dX12_prop_27 (by decide) ?_
  exact W.iret (v := (-2)) hx hb hr (fun t ht hW => ⟨(-2), rfl, rfl, ht⟩) (fun q h => by cases h) dX12_prop_29
set_option maxHeartbeats 4000000 in
set_option maxRecDepth 100000 in
theorem c_X12_widen (l : Launch) (D : va_G) (k : Nat → ClassId) (b : Nat → Nat) (p1 : Int32) (p2 : Int32) : Met l yX12_widen wsX12_widen ({ frames := 2, cells := 0, slots := 0, locals := 46 }) (PreR D k [m0 k b, m1 k b] [.ref (b 0), .int p1, .int p2]) (vp_Si (fun r => r = (-2))) 0 0 (fun _ => False) := by
  refine Met.ofW (cc := cX12_widen) (maxL := 3) (ret := (some .int)) (by decide) rfl ?_
  intro p e s m args below meth c s₁ B hml hv
  obtain ⟨rfl, hP, hK⟩ := hv
  have hx := B.exec
  have hb := B.bytes
  have hr := B.returns
  have hts := atoms_spec (ws := wsX12_widen) B.pre
  have hown : s.vm.findClass RX12 = some m.cls := findClass_of_methodNamed B.named
  have hlocks := B.notSynchronized
  have hl := lv_entry ([.ref (b 0), .int p1, .int p2]) (n := 3) (Nat.le_of_ble_eq_true rfl)
  rw [lg_entry_eq]
  generalize (lg_sl ([.ref (b 0), .int p1, .int p2]) ++ List.replicate (3 - (lg_sl ([.ref (b 0), .int p1, .int p2])).length) Slot.unset).toArray = ls at hl ⊢
  have hl : lv_has ls 3 [(0, .ref (b 0)), (1, .int p1), (2, .int p2)] := hl
  refine lv_aload_n hx hb dX12_widen_0 rfl (lv_at hl 0 rfl) ?_
  refine lv_iload_n hx hb dX12_widen_1 rfl (lv_at hl 1 rfl) ?_
  refine pvi (C := RX12) (As := [.int p1]) (rest := []) (wc := [m0 k b, m1 k b]) ⟨hx, hb, hml, hown, hts⟩ (c_X12_isPipe l D k b p1) (cwV 1 hts gX12_widen_X12_isPipe rfl rfl rfl (by decide +kernel) ⟨Nat.le_of_ble_eq_true rfl, Nat.le_of_ble_eq_true rfl⟩) hP hK [0, 1] rfl 0 rfl rfl rfl rfl hl.1 rfl (Nat.le_of_ble_eq_true rfl) dX12_widen_2 ⟨Nat.le_of_ble_eq_true rfl, Nat.le_of_ble_eq_true rfl⟩ (fun r1 hr1 => ?_)
  obtain rfl := hr1
  refine lv_if_eq (tgt := 30) hx hb dX12_widen_5 (by decide) (fun _ => ?_) (fun h => absurd (by decide) h)
  refine lv_bipush (v := (-2)) hx hb dX12_widen_30 (by decide) ?_
  exact W.iret (v := (-2)) hx hb hr (fun t ht hW => ⟨(-2), rfl, rfl, ht⟩) (fun q h => by cases h) dX12_widen_32
set_option maxHeartbeats 4000000 in
set_option maxRecDepth 100000 in
theorem c_X12_lever (l : Launch) (D : va_G) (k : Nat → ClassId) (b : Nat → Nat) (p1 : Int32) (p2 : Int32) : Met l yX12_lever wsX12_lever ({ frames := 2, cells := 0, slots := 0, locals := 46 }) (PreR D k [m0 k b, m1 k b] [.ref (b 0), .int p1, .int p2]) (vp_Si (fun r => r = (-2))) 0 0 (fun _ => False) := by
  refine Met.ofW (cc := cX12_lever) (maxL := 13) (ret := (some .int)) (by decide) rfl ?_
  intro p e s m args below meth c s₁ B hml hv
  obtain ⟨rfl, hP, hK⟩ := hv
  have hx := B.exec
  have hb := B.bytes
  have hr := B.returns
  have hts := atoms_spec (ws := wsX12_lever) B.pre
  have hown : s.vm.findClass RX12 = some m.cls := findClass_of_methodNamed B.named
  have hlocks := B.notSynchronized
  have hl := lv_entry ([.ref (b 0), .int p1, .int p2]) (n := 13) (Nat.le_of_ble_eq_true rfl)
  rw [lg_entry_eq]
  generalize (lg_sl ([.ref (b 0), .int p1, .int p2]) ++ List.replicate (13 - (lg_sl ([.ref (b 0), .int p1, .int p2])).length) Slot.unset).toArray = ls at hl ⊢
  have hl : lv_has ls 13 [(0, .ref (b 0)), (1, .int p1), (2, .int p2)] := hl
  refine lv_iload_n hx hb dX12_lever_0 rfl (lv_at hl 1 rfl) ?_
  refine psi (As := [.int p1]) (rest := []) ⟨hx, hb, hml, hown, hts⟩ (c_X12_isSlot l D k p1) (va_cwS 1 hts gX12_lever_X12_isSlot rfl rfl rfl (by decide +kernel) ⟨Nat.le_of_ble_eq_true rfl, Nat.le_of_ble_eq_true rfl⟩) hK rfl hl.1 rfl (Nat.le_of_ble_eq_true rfl) dX12_lever_1 ⟨Nat.le_of_ble_eq_true rfl, Nat.le_of_ble_eq_true rfl⟩ (fun r1 hr1 => ?_)
  rcases hr1 with ⟨g2, rfl⟩ | ⟨g2, rfl⟩
  · refine lv_if_eq (tgt := 15) hx hb dX12_lever_4 (by decide) (fun h => absurd h (by decide)) (fun _ => ?_)
    refine lv_aload_n hx hb dX12_lever_7 rfl (lv_at hl 0 rfl) ?_
    refine lv_iload_n hx hb dX12_lever_8 rfl (lv_at hl 2 rfl) ?_
    refine pvi (C := RX12) (As := [.int p2]) (rest := []) (wc := [m0 k b, m1 k b]) ⟨hx, hb, hml, hown, hts⟩ (c_X12_isPipe l D k b p2) (cwV 1 hts gX12_lever_X12_isPipe rfl rfl rfl (by decide +kernel) ⟨Nat.le_of_ble_eq_true rfl, Nat.le_of_ble_eq_true rfl⟩) hP hK [0, 1] rfl 0 rfl rfl rfl rfl hl.1 rfl (Nat.le_of_ble_eq_true rfl) dX12_lever_9 ⟨Nat.le_of_ble_eq_true rfl, Nat.le_of_ble_eq_true rfl⟩ (fun r3 hr3 => ?_)
    obtain rfl := hr3
    refine lv_if_ne (tgt := 18) hx hb dX12_lever_12 (by decide) (fun h => absurd (by decide) h) (fun _ => ?_)
    refine lv_bipush (v := (-2)) hx hb dX12_lever_15 (by decide) ?_
    exact W.iret (v := (-2)) hx hb hr (fun t ht hW => ⟨(-2), rfl, rfl, ht⟩) (fun q h => by cases h) dX12_lever_17
  · refine lv_if_eq (tgt := 15) hx hb dX12_lever_4 (by decide) (fun _ => ?_) (fun h => absurd (by decide) h)
    refine lv_bipush (v := (-2)) hx hb dX12_lever_15 (by decide) ?_
    exact W.iret (v := (-2)) hx hb hr (fun t ht hW => ⟨(-2), rfl, rfl, ht⟩) (fun q h => by cases h) dX12_lever_17
set_option maxHeartbeats 4000000 in
set_option maxRecDepth 100000 in
theorem c_X12_shows (l : Launch) (D : va_G) (k : Nat → ClassId) (b : Nat → Nat) (p1 : Int32) : Met l yX12_shows wsX12_shows ({ frames := 0, cells := 0, slots := 0, locals := 0 }) (PreR D k [m0 k b, m1 k b] [.ref (b 0), .int p1]) (vp_Si (fun r => r = 0)) 0 0 (fun _ => False) := by
  refine Met.ofW (cc := cX12_shows) (maxL := 4) (ret := (some .int)) (by decide) rfl ?_
  intro p e s m args below meth c s₁ B hml hv
  obtain ⟨rfl, hP, hK⟩ := hv
  have hx := B.exec
  have hb := B.bytes
  have hr := B.returns
  have hts := atoms_spec (ws := wsX12_shows) B.pre
  have hown : s.vm.findClass RX12 = some m.cls := findClass_of_methodNamed B.named
  have hlocks := B.notSynchronized
  have i_X12 : ∀ w ∈ wsX120, w ∈ wsX12_shows := by decide +kernel
  have hl := lv_entry ([.ref (b 0), .int p1]) (n := 4) (Nat.le_of_ble_eq_true rfl)
  rw [lg_entry_eq]
  generalize (lg_sl ([.ref (b 0), .int p1]) ++ List.replicate (4 - (lg_sl ([.ref (b 0), .int p1])).length) Slot.unset).toArray = ls at hl ⊢
  have hl : lv_has ls 4 [(0, .ref (b 0)), (1, .int p1)] := hl
  refine lv_iconst (v := 0) hx hb dX12_shows_0 (by decide) ?_
  refine lv_istore_n (lv' := [(2, .int 0), (0, .ref (b 0)), (1, .int p1)]) hx hb dX12_shows_1 rfl hl (by decide) rfl (fun ls hl => ?_)
  refine lv_iconst (v := 0) hx hb dX12_shows_2 (by decide) ?_
  refine lv_istore_n (lv' := [(3, .int 0), (2, .int 0), (0, .ref (b 0)), (1, .int p1)]) hx hb dX12_shows_3 rfl hl (by decide) rfl (fun ls hl => ?_)
  refine lv_iload_n hx hb dX12_shows_4 rfl (lv_at hl 0 rfl) ?_
  refine lv_aload_n hx hb dX12_shows_5 rfl (lv_at hl 2 rfl) ?_
  refine va_get (D := D) (ci := 12) (v := .ref (b 1)) (C := RX12) (T := TX12) (N := 34) hx hb hts i_X12 hown hK hP 0 rfl rfl 1 (by decide) (hts (.fieldLink RX12 13 "BellowsRowModel" "world" "[I") (by decide +kernel)) (fun _ h9 => h9) rfl dX12_shows_6 ?_
  refine lv_iconst (v := 2) hx hb dX12_shows_9 (by decide) ?_
  refine va_iald hx hb hK hP 1 1 rfl rfl (vp_in_iff.mpr (by decide)) dX12_shows_10 ?_
  refine W.eq (g2 := F0 m 11 ls [.int 0, .int 0]) rfl ?_
  refine lv_icmp_ge (tgt := 52) hx hb dX12_shows_11 (by decide) (fun _ => ?_) (fun h => absurd (by decide) h)
  refine lv_iload_n hx hb dX12_shows_52 rfl (lv_at hl 1 rfl) ?_
  exact W.iret (v := 0) hx hb hr (fun t ht hW => ⟨0, rfl, rfl, ht⟩) (fun q h => by cases h) dX12_shows_53
set_option maxHeartbeats 4000000 in
set_option maxRecDepth 100000 in
theorem c_X12_trial (l : Launch) (D : va_G) (k : Nat → ClassId) (b : Nat → Nat) (p1 : Int32) : Met l yX12_trial wsX12_trial ({ frames := 2, cells := 0, slots := 0, locals := 45 }) (PreR D k [m0 k b, m1 k b] [.ref (b 0), .int p1]) (vp_Si (fun r => ((0 ≤ p1.toInt ∧ p1.toInt ≤ 999) ∧ r = 0) ∨ (¬ (0 ≤ p1.toInt ∧ p1.toInt ≤ 999) ∧ r = (-2)))) 0 0 (fun _ => False) := by
  refine Met.ofW (cc := cX12_trial) (maxL := 2) (ret := (some .int)) (by decide) rfl ?_
  intro p e s m args below meth c s₁ B hml hv
  obtain ⟨rfl, hP, hK⟩ := hv
  have hx := B.exec
  have hb := B.bytes
  have hr := B.returns
  have hts := atoms_spec (ws := wsX12_trial) B.pre
  have hown : s.vm.findClass RX12 = some m.cls := findClass_of_methodNamed B.named
  have hlocks := B.notSynchronized
  have hl := lv_entry ([.ref (b 0), .int p1]) (n := 2) (Nat.le_of_ble_eq_true rfl)
  rw [lg_entry_eq]
  generalize (lg_sl ([.ref (b 0), .int p1]) ++ List.replicate (2 - (lg_sl ([.ref (b 0), .int p1])).length) Slot.unset).toArray = ls at hl ⊢
  have hl : lv_has ls 2 [(0, .ref (b 0)), (1, .int p1)] := hl
  refine lv_iload_n hx hb dX12_trial_0 rfl (lv_at hl 1 rfl) ?_
  refine psi (As := [.int p1]) (rest := []) ⟨hx, hb, hml, hown, hts⟩ (c_X12_isPress l D k p1) (va_cwS 1 hts gX12_trial_X12_isPress rfl rfl rfl (by decide +kernel) ⟨Nat.le_of_ble_eq_true rfl, Nat.le_of_ble_eq_true rfl⟩) hK rfl hl.1 rfl (Nat.le_of_ble_eq_true rfl) dX12_trial_1 ⟨Nat.le_of_ble_eq_true rfl, Nat.le_of_ble_eq_true rfl⟩ (fun r1 hr1 => ?_)
  rcases hr1 with ⟨g2, rfl⟩ | ⟨g2, rfl⟩
  · refine lv_if_eq (tgt := 15) hx hb dX12_trial_4 (by decide) (fun h => absurd h (by decide)) (fun _ => ?_)
    refine lv_aload_n hx hb dX12_trial_7 rfl (lv_at hl 0 rfl) ?_
    refine lv_iload_n hx hb dX12_trial_8 rfl (lv_at hl 1 rfl) ?_
    refine pvi (C := RX12) (As := [.int p1]) (rest := []) (wc := [m0 k b, m1 k b]) ⟨hx, hb, hml, hown, hts⟩ (c_X12_shows l D k b p1) (cwV 1 hts gX12_trial_X12_shows rfl rfl rfl (by decide +kernel) ⟨Nat.le_of_ble_eq_true rfl, Nat.le_of_ble_eq_true rfl⟩) hP hK [0, 1] rfl 0 rfl rfl rfl rfl hl.1 rfl (Nat.le_of_ble_eq_true rfl) dX12_trial_9 ⟨Nat.le_of_ble_eq_true rfl, Nat.le_of_ble_eq_true rfl⟩ (fun r3 hr3 => ?_)
    obtain rfl := hr3
    refine lv_goto (tgt := 17) hx hb dX12_trial_12 (by decide) ?_
    exact W.iret (v := 0) hx hb hr (fun t ht hW => ⟨0, rfl, Or.inl ⟨by (try simp only [i_lt, i_le, i_eq, Int32.toInt_toInt64, Int32.reduceToInt, Int64.reduceToInt] at g2 ⊢); omega, rfl⟩, ht⟩) (fun q h => by cases h) dX12_trial_17
  · refine lv_if_eq (tgt := 15) hx hb dX12_trial_4 (by decide) (fun _ => ?_) (fun h => absurd (by decide) h)
    refine lv_bipush (v := (-2)) hx hb dX12_trial_15 (by decide) ?_
    exact W.iret (v := (-2)) hx hb hr (fun t ht hW => ⟨(-2), rfl, Or.inr ⟨by (try simp only [i_lt, i_le, i_eq, Int32.toInt_toInt64, Int32.reduceToInt, Int64.reduceToInt] at g2 ⊢); omega, rfl⟩, ht⟩) (fun q h => by cases h) dX12_trial_17
set_option maxHeartbeats 4000000 in
set_option maxRecDepth 100000 in
theorem c_X12_show (l : Launch) (D : va_G) (k : Nat → ClassId) (b : Nat → Nat) : Met l yX12_show wsX12_show ({ frames := 0, cells := 0, slots := 0, locals := 0 }) (PreR D k [m0 k b, m1 k b] [.ref (b 0)]) (vp_Si (fun r => r = 0)) 0 0 (fun _ => False) := by
  refine Met.ofW (cc := cX12_show) (maxL := 3) (ret := (some .int)) (by decide) rfl ?_
  intro p e s m args below meth c s₁ B hml hv
  obtain ⟨rfl, hP, hK⟩ := hv
  have hx := B.exec
  have hb := B.bytes
  have hr := B.returns
  have hts := atoms_spec (ws := wsX12_show) B.pre
  have hown : s.vm.findClass RX12 = some m.cls := findClass_of_methodNamed B.named
  have hlocks := B.notSynchronized
  have i_X12 : ∀ w ∈ wsX120, w ∈ wsX12_show := by decide +kernel
  have hl := lv_entry ([.ref (b 0)]) (n := 3) (Nat.le_of_ble_eq_true rfl)
  rw [lg_entry_eq]
  generalize (lg_sl ([.ref (b 0)]) ++ List.replicate (3 - (lg_sl ([.ref (b 0)])).length) Slot.unset).toArray = ls at hl ⊢
  have hl : lv_has ls 3 [(0, .ref (b 0))] := hl
  refine lv_iconst (v := 0) hx hb dX12_show_0 (by decide) ?_
  refine lv_istore_n (lv' := [(1, .int 0), (0, .ref (b 0))]) hx hb dX12_show_1 rfl hl (by decide) rfl (fun ls hl => ?_)
  refine lv_iconst (v := 0) hx hb dX12_show_2 (by decide) ?_
  refine lv_istore_n (lv' := [(2, .int 0), (1, .int 0), (0, .ref (b 0))]) hx hb dX12_show_3 rfl hl (by decide) rfl (fun ls hl => ?_)
  refine lv_iload_n hx hb dX12_show_4 rfl (lv_at hl 0 rfl) ?_
  refine lv_aload_n hx hb dX12_show_5 rfl (lv_at hl 2 rfl) ?_
  refine va_get (D := D) (ci := 12) (v := .ref (b 1)) (C := RX12) (T := TX12) (N := 34) hx hb hts i_X12 hown hK hP 0 rfl rfl 1 (by decide) (hts (.fieldLink RX12 13 "BellowsRowModel" "world" "[I") (by decide +kernel)) (fun _ h9 => h9) rfl dX12_show_6 ?_
  refine lv_iconst (v := 2) hx hb dX12_show_9 (by decide) ?_
  refine va_iald hx hb hK hP 1 1 rfl rfl (vp_in_iff.mpr (by decide)) dX12_show_10 ?_
  refine W.eq (g2 := F0 m 11 ls [.int 0, .int 0]) rfl ?_
  refine lv_icmp_ge (tgt := 39) hx hb dX12_show_11 (by decide) (fun _ => ?_) (fun h => absurd (by decide) h)
  refine lv_iload_n hx hb dX12_show_39 rfl (lv_at hl 1 rfl) ?_
  exact W.iret (v := 0) hx hb hr (fun t ht hW => ⟨0, rfl, rfl, ht⟩) (fun q h => by cases h) dX12_show_40
set_option maxHeartbeats 4000000 in
set_option maxRecDepth 100000 in
theorem c_X12_reach (l : Launch) (D : va_G) (k : Nat → ClassId) (b : Nat → Nat) (p1 : Int32) (p2 : Int32) (p3 : Int32) : Met l yX12_reach wsX12_reach ({ frames := 2, cells := 0, slots := 0, locals := 46 }) (PreR D k [m0 k b, m1 k b] [.ref (b 0), .int p1, .int p2, .int p3]) (vp_Si (fun r => r = (-2))) 0 0 (fun _ => False) := by
  refine Met.ofW (cc := cX12_reach) (maxL := 4) (ret := (some .int)) (by decide) rfl ?_
  intro p e s m args below meth c s₁ B hml hv
  obtain ⟨rfl, hP, hK⟩ := hv
  have hx := B.exec
  have hb := B.bytes
  have hr := B.returns
  have hts := atoms_spec (ws := wsX12_reach) B.pre
  have hown : s.vm.findClass RX12 = some m.cls := findClass_of_methodNamed B.named
  have hlocks := B.notSynchronized
  have hl := lv_entry ([.ref (b 0), .int p1, .int p2, .int p3]) (n := 4) (Nat.le_of_ble_eq_true rfl)
  rw [lg_entry_eq]
  generalize (lg_sl ([.ref (b 0), .int p1, .int p2, .int p3]) ++ List.replicate (4 - (lg_sl ([.ref (b 0), .int p1, .int p2, .int p3])).length) Slot.unset).toArray = ls at hl ⊢
  have hl : lv_has ls 4 [(0, .ref (b 0)), (1, .int p1), (2, .int p2), (3, .int p3)] := hl
  refine lv_aload_n hx hb dX12_reach_0 rfl (lv_at hl 0 rfl) ?_
  refine lv_iload_n hx hb dX12_reach_1 rfl (lv_at hl 1 rfl) ?_
  refine pvi (C := RX12) (As := [.int p1]) (rest := []) (wc := [m0 k b, m1 k b]) ⟨hx, hb, hml, hown, hts⟩ (c_X12_isPipe l D k b p1) (cwV 1 hts gX12_reach_X12_isPipe rfl rfl rfl (by decide +kernel) ⟨Nat.le_of_ble_eq_true rfl, Nat.le_of_ble_eq_true rfl⟩) hP hK [0, 1] rfl 0 rfl rfl rfl rfl hl.1 rfl (Nat.le_of_ble_eq_true rfl) dX12_reach_2 ⟨Nat.le_of_ble_eq_true rfl, Nat.le_of_ble_eq_true rfl⟩ (fun r1 hr1 => ?_)
  obtain rfl := hr1
  refine lv_if_eq (tgt := 38) hx hb dX12_reach_5 (by decide) (fun _ => ?_) (fun h => absurd (by decide) h)
  refine lv_bipush (v := (-2)) hx hb dX12_reach_38 (by decide) ?_
  exact W.iret (v := (-2)) hx hb hr (fun t ht hW => ⟨(-2), rfl, rfl, ht⟩) (fun q h => by cases h) dX12_reach_40
set_option maxHeartbeats 4000000 in
set_option maxRecDepth 100000 in
theorem c_X12_lights (l : Launch) (D : va_G) (k : Nat → ClassId) (b : Nat → Nat) (p1 : Int32) (p2 : Int32) : Met l yX12_lights wsX12_lights ({ frames := 2, cells := 0, slots := 0, locals := 46 }) (PreR D k [m0 k b, m1 k b] [.ref (b 0), .int p1, .int p2]) (vp_Si (fun r => r = (-2))) 0 0 (fun _ => False) := by
  refine Met.ofW (cc := cX12_lights) (maxL := 3) (ret := (some .int)) (by decide) rfl ?_
  intro p e s m args below meth c s₁ B hml hv
  obtain ⟨rfl, hP, hK⟩ := hv
  have hx := B.exec
  have hb := B.bytes
  have hr := B.returns
  have hts := atoms_spec (ws := wsX12_lights) B.pre
  have hown : s.vm.findClass RX12 = some m.cls := findClass_of_methodNamed B.named
  have hlocks := B.notSynchronized
  have hl := lv_entry ([.ref (b 0), .int p1, .int p2]) (n := 3) (Nat.le_of_ble_eq_true rfl)
  rw [lg_entry_eq]
  generalize (lg_sl ([.ref (b 0), .int p1, .int p2]) ++ List.replicate (3 - (lg_sl ([.ref (b 0), .int p1, .int p2])).length) Slot.unset).toArray = ls at hl ⊢
  have hl : lv_has ls 3 [(0, .ref (b 0)), (1, .int p1), (2, .int p2)] := hl
  refine lv_aload_n hx hb dX12_lights_0 rfl (lv_at hl 0 rfl) ?_
  refine lv_iload_n hx hb dX12_lights_1 rfl (lv_at hl 1 rfl) ?_
  refine pvi (C := RX12) (As := [.int p1]) (rest := []) (wc := [m0 k b, m1 k b]) ⟨hx, hb, hml, hown, hts⟩ (c_X12_isPipe l D k b p1) (cwV 1 hts gX12_lights_X12_isPipe rfl rfl rfl (by decide +kernel) ⟨Nat.le_of_ble_eq_true rfl, Nat.le_of_ble_eq_true rfl⟩) hP hK [0, 1] rfl 0 rfl rfl rfl rfl hl.1 rfl (Nat.le_of_ble_eq_true rfl) dX12_lights_2 ⟨Nat.le_of_ble_eq_true rfl, Nat.le_of_ble_eq_true rfl⟩ (fun r1 hr1 => ?_)
  obtain rfl := hr1
  refine lv_if_eq (tgt := 25) hx hb dX12_lights_5 (by decide) (fun _ => ?_) (fun h => absurd (by decide) h)
  refine lv_bipush (v := (-2)) hx hb dX12_lights_25 (by decide) ?_
  exact W.iret (v := (-2)) hx hb hr (fun t ht hW => ⟨(-2), rfl, rfl, ht⟩) (fun q h => by cases h) dX12_lights_27
set_option maxHeartbeats 4000000 in
set_option maxRecDepth 100000 in
theorem c_X12_taken_ (l : Launch) (D : va_G) (k : Nat → ClassId) (b : Nat → Nat) (p1 : Int32) (p2 : Int32) : Met l yX12_taken_ wsX12_taken_ ({ frames := 2, cells := 0, slots := 0, locals := 46 }) (PreR D k [m0 k b, m1 k b] [.ref (b 0), .int p1, .int p2]) (vp_Si (fun r => r = (-2))) 0 0 (fun _ => False) := by
  refine Met.ofW (cc := cX12_taken_) (maxL := 3) (ret := (some .int)) (by decide) rfl ?_
  intro p e s m args below meth c s₁ B hml hv
  obtain ⟨rfl, hP, hK⟩ := hv
  have hx := B.exec
  have hb := B.bytes
  have hr := B.returns
  have hts := atoms_spec (ws := wsX12_taken_) B.pre
  have hown : s.vm.findClass RX12 = some m.cls := findClass_of_methodNamed B.named
  have hlocks := B.notSynchronized
  have hl := lv_entry ([.ref (b 0), .int p1, .int p2]) (n := 3) (Nat.le_of_ble_eq_true rfl)
  rw [lg_entry_eq]
  generalize (lg_sl ([.ref (b 0), .int p1, .int p2]) ++ List.replicate (3 - (lg_sl ([.ref (b 0), .int p1, .int p2])).length) Slot.unset).toArray = ls at hl ⊢
  have hl : lv_has ls 3 [(0, .ref (b 0)), (1, .int p1), (2, .int p2)] := hl
  refine lv_aload_n hx hb dX12_taken__0 rfl (lv_at hl 0 rfl) ?_
  refine lv_iload_n hx hb dX12_taken__1 rfl (lv_at hl 1 rfl) ?_
  refine pvi (C := RX12) (As := [.int p1]) (rest := []) (wc := [m0 k b, m1 k b]) ⟨hx, hb, hml, hown, hts⟩ (c_X12_isPipe l D k b p1) (cwV 1 hts gX12_taken__X12_isPipe rfl rfl rfl (by decide +kernel) ⟨Nat.le_of_ble_eq_true rfl, Nat.le_of_ble_eq_true rfl⟩) hP hK [0, 1] rfl 0 rfl rfl rfl rfl hl.1 rfl (Nat.le_of_ble_eq_true rfl) dX12_taken__2 ⟨Nat.le_of_ble_eq_true rfl, Nat.le_of_ble_eq_true rfl⟩ (fun r1 hr1 => ?_)
  obtain rfl := hr1
  refine lv_if_eq (tgt := 25) hx hb dX12_taken__5 (by decide) (fun _ => ?_) (fun h => absurd (by decide) h)
  refine lv_bipush (v := (-2)) hx hb dX12_taken__25 (by decide) ?_
  exact W.iret (v := (-2)) hx hb hr (fun t ht hW => ⟨(-2), rfl, rfl, ht⟩) (fun q h => by cases h) dX12_taken__27
set_option maxHeartbeats 4000000 in
set_option maxRecDepth 100000 in
theorem c_X12_lives (l : Launch) (D : va_G) (k : Nat → ClassId) (b : Nat → Nat) (p1 : Int32) (p2 : Int32) : Met l yX12_lives wsX12_lives ({ frames := 2, cells := 0, slots := 0, locals := 46 }) (PreR D k [m0 k b, m1 k b] [.ref (b 0), .int p1, .int p2]) (vp_Si (fun r => r = (-2))) 0 0 (fun _ => False) := by
  refine Met.ofW (cc := cX12_lives) (maxL := 3) (ret := (some .int)) (by decide) rfl ?_
  intro p e s m args below meth c s₁ B hml hv
  obtain ⟨rfl, hP, hK⟩ := hv
  have hx := B.exec
  have hb := B.bytes
  have hr := B.returns
  have hts := atoms_spec (ws := wsX12_lives) B.pre
  have hown : s.vm.findClass RX12 = some m.cls := findClass_of_methodNamed B.named
  have hlocks := B.notSynchronized
  have hl := lv_entry ([.ref (b 0), .int p1, .int p2]) (n := 3) (Nat.le_of_ble_eq_true rfl)
  rw [lg_entry_eq]
  generalize (lg_sl ([.ref (b 0), .int p1, .int p2]) ++ List.replicate (3 - (lg_sl ([.ref (b 0), .int p1, .int p2])).length) Slot.unset).toArray = ls at hl ⊢
  have hl : lv_has ls 3 [(0, .ref (b 0)), (1, .int p1), (2, .int p2)] := hl
  refine lv_aload_n hx hb dX12_lives_0 rfl (lv_at hl 0 rfl) ?_
  refine lv_iload_n hx hb dX12_lives_1 rfl (lv_at hl 1 rfl) ?_
  refine pvi (C := RX12) (As := [.int p1]) (rest := []) (wc := [m0 k b, m1 k b]) ⟨hx, hb, hml, hown, hts⟩ (c_X12_isPipe l D k b p1) (cwV 1 hts gX12_lives_X12_isPipe rfl rfl rfl (by decide +kernel) ⟨Nat.le_of_ble_eq_true rfl, Nat.le_of_ble_eq_true rfl⟩) hP hK [0, 1] rfl 0 rfl rfl rfl rfl hl.1 rfl (Nat.le_of_ble_eq_true rfl) dX12_lives_2 ⟨Nat.le_of_ble_eq_true rfl, Nat.le_of_ble_eq_true rfl⟩ (fun r1 hr1 => ?_)
  obtain rfl := hr1
  refine lv_if_eq (tgt := 25) hx hb dX12_lives_5 (by decide) (fun _ => ?_) (fun h => absurd (by decide) h)
  refine lv_bipush (v := (-2)) hx hb dX12_lives_25 (by decide) ?_
  exact W.iret (v := (-2)) hx hb hr (fun t ht hW => ⟨(-2), rfl, rfl, ht⟩) (fun q h => by cases h) dX12_lives_27
set_option maxHeartbeats 4000000 in
set_option maxRecDepth 100000 in
theorem c_X12_when (l : Launch) (D : va_G) (k : Nat → ClassId) (b : Nat → Nat) (p1 : Int32) (p2 : Int32) (p3 : Int32) : Met l yX12_when wsX12_when ({ frames := 2, cells := 0, slots := 0, locals := 46 }) (PreR D k [m0 k b, m1 k b] [.ref (b 0), .int p1, .int p2, .int p3]) (vp_Si (fun r => r = (-2))) 0 0 (fun _ => False) := by
  refine Met.ofW (cc := cX12_when) (maxL := 8) (ret := (some .int)) (by decide) rfl ?_
  intro p e s m args below meth c s₁ B hml hv
  obtain ⟨rfl, hP, hK⟩ := hv
  have hx := B.exec
  have hb := B.bytes
  have hr := B.returns
  have hts := atoms_spec (ws := wsX12_when) B.pre
  have hown : s.vm.findClass RX12 = some m.cls := findClass_of_methodNamed B.named
  have hlocks := B.notSynchronized
  have hl := lv_entry ([.ref (b 0), .int p1, .int p2, .int p3]) (n := 8) (Nat.le_of_ble_eq_true rfl)
  rw [lg_entry_eq]
  generalize (lg_sl ([.ref (b 0), .int p1, .int p2, .int p3]) ++ List.replicate (8 - (lg_sl ([.ref (b 0), .int p1, .int p2, .int p3])).length) Slot.unset).toArray = ls at hl ⊢
  have hl : lv_has ls 8 [(0, .ref (b 0)), (1, .int p1), (2, .int p2), (3, .int p3)] := hl
  refine lv_aload_n hx hb dX12_when_0 rfl (lv_at hl 0 rfl) ?_
  refine lv_iload_n hx hb dX12_when_1 rfl (lv_at hl 1 rfl) ?_
  refine pvi (C := RX12) (As := [.int p1]) (rest := []) (wc := [m0 k b, m1 k b]) ⟨hx, hb, hml, hown, hts⟩ (c_X12_isPipe l D k b p1) (cwV 1 hts gX12_when_X12_isPipe rfl rfl rfl (by decide +kernel) ⟨Nat.le_of_ble_eq_true rfl, Nat.le_of_ble_eq_true rfl⟩) hP hK [0, 1] rfl 0 rfl rfl rfl rfl hl.1 rfl (Nat.le_of_ble_eq_true rfl) dX12_when_2 ⟨Nat.le_of_ble_eq_true rfl, Nat.le_of_ble_eq_true rfl⟩ (fun r1 hr1 => ?_)
  obtain rfl := hr1
  refine lv_if_eq (tgt := 28) hx hb dX12_when_5 (by decide) (fun _ => ?_) (fun h => absurd (by decide) h)
  refine lv_bipush (v := (-2)) hx hb dX12_when_28 (by decide) ?_
  exact W.iret (v := (-2)) hx hb hr (fun t ht hW => ⟨(-2), rfl, rfl, ht⟩) (fun q h => by cases h) dX12_when_30
set_option maxHeartbeats 4000000 in
set_option maxRecDepth 100000 in
theorem c_X12_risk (l : Launch) (D : va_G) (k : Nat → ClassId) (b : Nat → Nat) (p1 : Int32) (p2 : Int32) (p3 : Int32) : Met l yX12_risk wsX12_risk ({ frames := 2, cells := 0, slots := 0, locals := 46 }) (PreR D k [m0 k b, m1 k b] [.ref (b 0), .int p1, .int p2, .int p3]) (vp_Si (fun r => r = (-2))) 0 0 (fun _ => False) := by
  refine Met.ofW (cc := cX12_risk) (maxL := 6) (ret := (some .int)) (by decide) rfl ?_
  intro p e s m args below meth c s₁ B hml hv
  obtain ⟨rfl, hP, hK⟩ := hv
  have hx := B.exec
  have hb := B.bytes
  have hr := B.returns
  have hts := atoms_spec (ws := wsX12_risk) B.pre
  have hown : s.vm.findClass RX12 = some m.cls := findClass_of_methodNamed B.named
  have hlocks := B.notSynchronized
  have hl := lv_entry ([.ref (b 0), .int p1, .int p2, .int p3]) (n := 6) (Nat.le_of_ble_eq_true rfl)
  rw [lg_entry_eq]
  generalize (lg_sl ([.ref (b 0), .int p1, .int p2, .int p3]) ++ List.replicate (6 - (lg_sl ([.ref (b 0), .int p1, .int p2, .int p3])).length) Slot.unset).toArray = ls at hl ⊢
  have hl : lv_has ls 6 [(0, .ref (b 0)), (1, .int p1), (2, .int p2), (3, .int p3)] := hl
  refine lv_aload_n hx hb dX12_risk_0 rfl (lv_at hl 0 rfl) ?_
  refine lv_iload_n hx hb dX12_risk_1 rfl (lv_at hl 1 rfl) ?_
  refine pvi (C := RX12) (As := [.int p1]) (rest := []) (wc := [m0 k b, m1 k b]) ⟨hx, hb, hml, hown, hts⟩ (c_X12_isPipe l D k b p1) (cwV 1 hts gX12_risk_X12_isPipe rfl rfl rfl (by decide +kernel) ⟨Nat.le_of_ble_eq_true rfl, Nat.le_of_ble_eq_true rfl⟩) hP hK [0, 1] rfl 0 rfl rfl rfl rfl hl.1 rfl (Nat.le_of_ble_eq_true rfl) dX12_risk_2 ⟨Nat.le_of_ble_eq_true rfl, Nat.le_of_ble_eq_true rfl⟩ (fun r1 hr1 => ?_)
  obtain rfl := hr1
  refine lv_if_eq (tgt := 28) hx hb dX12_risk_5 (by decide) (fun _ => ?_) (fun h => absurd (by decide) h)
  refine lv_bipush (v := (-2)) hx hb dX12_risk_28 (by decide) ?_
  exact W.iret (v := (-2)) hx hb hr (fun t ht hW => ⟨(-2), rfl, rfl, ht⟩) (fun q h => by cases h) dX12_risk_30
set_option maxHeartbeats 4000000 in
set_option maxRecDepth 100000 in
theorem c_X12_safest (l : Launch) (D : va_G) (k : Nat → ClassId) (b : Nat → Nat) (p1 : Int32) (p2 : Int32) (p3 : Int32) : Met l yX12_safest wsX12_safest ({ frames := 2, cells := 0, slots := 0, locals := 46 }) (PreR D k [m0 k b, m1 k b] [.ref (b 0), .int p1, .int p2, .int p3]) (vp_Si (fun r => r = (-2))) 0 0 (fun _ => False) := by
  refine Met.ofW (cc := cX12_safest) (maxL := 7) (ret := (some .int)) (by decide) rfl ?_
  intro p e s m args below meth c s₁ B hml hv
  obtain ⟨rfl, hP, hK⟩ := hv
  have hx := B.exec
  have hb := B.bytes
  have hr := B.returns
  have hts := atoms_spec (ws := wsX12_safest) B.pre
  have hown : s.vm.findClass RX12 = some m.cls := findClass_of_methodNamed B.named
  have hlocks := B.notSynchronized
  have hl := lv_entry ([.ref (b 0), .int p1, .int p2, .int p3]) (n := 7) (Nat.le_of_ble_eq_true rfl)
  rw [lg_entry_eq]
  generalize (lg_sl ([.ref (b 0), .int p1, .int p2, .int p3]) ++ List.replicate (7 - (lg_sl ([.ref (b 0), .int p1, .int p2, .int p3])).length) Slot.unset).toArray = ls at hl ⊢
  have hl : lv_has ls 7 [(0, .ref (b 0)), (1, .int p1), (2, .int p2), (3, .int p3)] := hl
  refine lv_aload_n hx hb dX12_safest_0 rfl (lv_at hl 0 rfl) ?_
  refine lv_iload_n hx hb dX12_safest_1 rfl (lv_at hl 1 rfl) ?_
  refine pvi (C := RX12) (As := [.int p1]) (rest := []) (wc := [m0 k b, m1 k b]) ⟨hx, hb, hml, hown, hts⟩ (c_X12_isPipe l D k b p1) (cwV 1 hts gX12_safest_X12_isPipe rfl rfl rfl (by decide +kernel) ⟨Nat.le_of_ble_eq_true rfl, Nat.le_of_ble_eq_true rfl⟩) hP hK [0, 1] rfl 0 rfl rfl rfl rfl hl.1 rfl (Nat.le_of_ble_eq_true rfl) dX12_safest_2 ⟨Nat.le_of_ble_eq_true rfl, Nat.le_of_ble_eq_true rfl⟩ (fun r1 hr1 => ?_)
  obtain rfl := hr1
  refine lv_if_eq (tgt := 34) hx hb dX12_safest_5 (by decide) (fun _ => ?_) (fun h => absurd (by decide) h)
  refine lv_bipush (v := (-2)) hx hb dX12_safest_34 (by decide) ?_
  exact W.iret (v := (-2)) hx hb hr (fun t ht hW => ⟨(-2), rfl, rfl, ht⟩) (fun q h => by cases h) dX12_safest_36
set_option maxHeartbeats 4000000 in
set_option maxRecDepth 100000 in
theorem c_X12_moved (l : Launch) (D : va_G) (k : Nat → ClassId) (b : Nat → Nat) (p1 : Int32) (p2 : Int32) (p3 : Int32) (p4 : Int32) (p5 : Int32) : Met l yX12_moved wsX12_moved ({ frames := 2, cells := 0, slots := 0, locals := 46 }) (PreR D k [m0 k b, m1 k b] [.ref (b 0), .int p1, .int p2, .int p3, .int p4, .int p5]) (vp_Si (fun r => r = (-2000000000))) 0 0 (fun _ => False) := by
  refine Met.ofW (cc := cX12_moved) (maxL := 8) (ret := (some .int)) (by decide) rfl ?_
  intro p e s m args below meth c s₁ B hml hv
  obtain ⟨rfl, hP, hK⟩ := hv
  have hx := B.exec
  have hb := B.bytes
  have hr := B.returns
  have hts := atoms_spec (ws := wsX12_moved) B.pre
  have hown : s.vm.findClass RX12 = some m.cls := findClass_of_methodNamed B.named
  have hlocks := B.notSynchronized
  have hl := lv_entry ([.ref (b 0), .int p1, .int p2, .int p3, .int p4, .int p5]) (n := 8) (Nat.le_of_ble_eq_true rfl)
  rw [lg_entry_eq]
  generalize (lg_sl ([.ref (b 0), .int p1, .int p2, .int p3, .int p4, .int p5]) ++ List.replicate (8 - (lg_sl ([.ref (b 0), .int p1, .int p2, .int p3, .int p4, .int p5])).length) Slot.unset).toArray = ls at hl ⊢
  have hl : lv_has ls 8 [(0, .ref (b 0)), (1, .int p1), (2, .int p2), (3, .int p3), (4, .int p4), (5, .int p5)] := hl
  refine lv_aload_n hx hb dX12_moved_0 rfl (lv_at hl 0 rfl) ?_
  refine lv_iload_n hx hb dX12_moved_1 rfl (lv_at hl 1 rfl) ?_
  refine pvi (C := RX12) (As := [.int p1]) (rest := []) (wc := [m0 k b, m1 k b]) ⟨hx, hb, hml, hown, hts⟩ (c_X12_isPipe l D k b p1) (cwV 1 hts gX12_moved_X12_isPipe rfl rfl rfl (by decide +kernel) ⟨Nat.le_of_ble_eq_true rfl, Nat.le_of_ble_eq_true rfl⟩) hP hK [0, 1] rfl 0 rfl rfl rfl rfl hl.1 rfl (Nat.le_of_ble_eq_true rfl) dX12_moved_2 ⟨Nat.le_of_ble_eq_true rfl, Nat.le_of_ble_eq_true rfl⟩ (fun r1 hr1 => ?_)
  obtain rfl := hr1
  refine lv_if_eq (tgt := 64) hx hb dX12_moved_5 (by decide) (fun _ => ?_) (fun h => absurd (by decide) h)
  refine lv_ldcw (own := RX12) (v := (-2000000000)) hx hb hown (hts (.constant RX12 302 (-2000000000)) (by decide +kernel)) dX12_moved_64 ?_
  exact W.iret (v := (-2000000000)) hx hb hr (fun t ht hW => ⟨(-2000000000), rfl, rfl, ht⟩) (fun q h => by cases h) dX12_moved_67
set_option maxHeartbeats 4000000 in
set_option maxRecDepth 100000 in
theorem c_X12_asked (l : Launch) (D : va_G) (k : Nat → ClassId) (b : Nat → Nat) (p1 : Int32) (p2 : Int32) : Met l yX12_asked wsX12_asked ({ frames := 1, cells := 0, slots := 0, locals := 25 }) (PreR D k [m0 k b, m1 k b] [.ref (b 0), .int p1, .int p2]) (vp_Si (fun r => r = (-2))) 0 0 (fun _ => False) := by
  refine Met.ofW (cc := cX12_asked) (maxL := 7) (ret := (some .int)) (by decide) rfl ?_
  intro p e s m args below meth c s₁ B hml hv
  obtain ⟨rfl, hP, hK⟩ := hv
  have hx := B.exec
  have hb := B.bytes
  have hr := B.returns
  have hts := atoms_spec (ws := wsX12_asked) B.pre
  have hown : s.vm.findClass RX12 = some m.cls := findClass_of_methodNamed B.named
  have hlocks := B.notSynchronized
  have i_X12 : ∀ w ∈ wsX120, w ∈ wsX12_asked := by decide +kernel
  have hl := lv_entry ([.ref (b 0), .int p1, .int p2]) (n := 7) (Nat.le_of_ble_eq_true rfl)
  rw [lg_entry_eq]
  generalize (lg_sl ([.ref (b 0), .int p1, .int p2]) ++ List.replicate (7 - (lg_sl ([.ref (b 0), .int p1, .int p2])).length) Slot.unset).toArray = ls at hl ⊢
  have hl : lv_has ls 7 [(0, .ref (b 0)), (1, .int p1), (2, .int p2)] := hl
  refine lv_iload_n hx hb dX12_asked_0 rfl (lv_at hl 1 rfl) ?_
  refine lv_i2l hx hb dX12_asked_1 rfl ?_
  refine lv_lconst (v := 0) hx hb dX12_asked_2 (by decide) ?_
  refine lv_aload_n hx hb dX12_asked_3 rfl (lv_at hl 0 rfl) ?_
  refine va_get (D := D) (ci := 12) (v := .ref (b 1)) (C := RX12) (T := TX12) (N := 34) hx hb hts i_X12 hown hK hP 0 rfl rfl 1 (by decide) (hts (.fieldLink RX12 13 "BellowsRowModel" "world" "[I") (by decide +kernel)) (fun _ h9 => h9) rfl dX12_asked_4 ?_
  refine lv_iconst (v := 5) hx hb dX12_asked_7 (by decide) ?_
  refine va_iald hx hb hK hP 1 1 rfl rfl (vp_in_iff.mpr (by decide)) dX12_asked_8 ?_
  refine W.eq (g2 := F0 m 9 ls [.int 0, .long 0, .long p1.toInt64]) rfl ?_
  refine lv_iconst (v := 1) hx hb dX12_asked_9 (by decide) ?_
  refine lv_isub hx hb dX12_asked_10 ?_
  refine lv_topi (fun x1 ex1 => ?_)
  obtain rfl : x1 = (-1) := ex1.trans (by decide)
  refine lv_i2l (v := (-1)) hx hb dX12_asked_11 (by decide) ?_
  refine psi (As := [.long p1.toInt64, .long 0, .long (-1)]) (rest := []) ⟨hx, hb, hml, hown, hts⟩ (c_X12_in l D k p1.toInt64 (0 : Int64) (-1 : Int64)) (va_cwS 3 hts gX12_asked_X12_in rfl rfl rfl (by decide +kernel) ⟨Nat.le_of_ble_eq_true rfl, Nat.le_of_ble_eq_true rfl⟩) hK rfl hl.1 rfl (Nat.le_of_ble_eq_true rfl) dX12_asked_12 ⟨Nat.le_of_ble_eq_true rfl, Nat.le_of_ble_eq_true rfl⟩ (fun r2 hr2 => ?_)
  rcases hr2 with ⟨g3, rfl⟩ | ⟨g3, rfl⟩
  · exact False.elim (by (try simp only [i_lt, i_le, i_eq, Int32.toInt_toInt64, Int32.reduceToInt, Int64.reduceToInt] at g3); omega)
  refine lv_if_eq (tgt := 30) hx hb dX12_asked_15 (by decide) (fun _ => ?_) (fun h => absurd (by decide) h)
  refine lv_bipush (v := (-2)) hx hb dX12_asked_30 (by decide) ?_
  exact W.iret (v := (-2)) hx hb hr (fun t ht hW => ⟨(-2), rfl, rfl, ht⟩) (fun q h => by cases h) dX12_asked_32
set_option maxHeartbeats 4000000 in
set_option maxRecDepth 100000 in
theorem c_X12_wholeOf (l : Launch) (D : va_G) (k : Nat → ClassId) (b : Nat → Nat) : Met l yX12_wholeOf wsX12_wholeOf ({ frames := 0, cells := 0, slots := 0, locals := 0 }) (PreR D k [m0 k b, m1 k b] [.ref (b 0)]) (vp_Si (fun r => r = 0)) 0 0 (fun _ => False) := by
  refine Met.ofW (cc := cX12_wholeOf) (maxL := 3) (ret := (some .int)) (by decide) rfl ?_
  intro p e s m args below meth c s₁ B hml hv
  obtain ⟨rfl, hP, hK⟩ := hv
  have hx := B.exec
  have hb := B.bytes
  have hr := B.returns
  have hts := atoms_spec (ws := wsX12_wholeOf) B.pre
  have hown : s.vm.findClass RX12 = some m.cls := findClass_of_methodNamed B.named
  have hlocks := B.notSynchronized
  have i_X12 : ∀ w ∈ wsX120, w ∈ wsX12_wholeOf := by decide +kernel
  have hl := lv_entry ([.ref (b 0)]) (n := 3) (Nat.le_of_ble_eq_true rfl)
  rw [lg_entry_eq]
  generalize (lg_sl ([.ref (b 0)]) ++ List.replicate (3 - (lg_sl ([.ref (b 0)])).length) Slot.unset).toArray = ls at hl ⊢
  have hl : lv_has ls 3 [(0, .ref (b 0))] := hl
  refine lv_iconst (v := 0) hx hb dX12_wholeOf_0 (by decide) ?_
  refine lv_istore_n (lv' := [(1, .int 0), (0, .ref (b 0))]) hx hb dX12_wholeOf_1 rfl hl (by decide) rfl (fun ls hl => ?_)
  refine lv_iconst (v := 0) hx hb dX12_wholeOf_2 (by decide) ?_
  refine lv_istore_n (lv' := [(2, .int 0), (1, .int 0), (0, .ref (b 0))]) hx hb dX12_wholeOf_3 rfl hl (by decide) rfl (fun ls hl => ?_)
  refine lv_iload_n hx hb dX12_wholeOf_4 rfl (lv_at hl 0 rfl) ?_
  refine lv_aload_n hx hb dX12_wholeOf_5 rfl (lv_at hl 2 rfl) ?_
  refine va_get (D := D) (ci := 12) (v := .ref (b 1)) (C := RX12) (T := TX12) (N := 34) hx hb hts i_X12 hown hK hP 0 rfl rfl 1 (by decide) (hts (.fieldLink RX12 13 "BellowsRowModel" "world" "[I") (by decide +kernel)) (fun _ h9 => h9) rfl dX12_wholeOf_6 ?_
  refine lv_iconst (v := 5) hx hb dX12_wholeOf_9 (by decide) ?_
  refine va_iald hx hb hK hP 1 1 rfl rfl (vp_in_iff.mpr (by decide)) dX12_wholeOf_10 ?_
  refine W.eq (g2 := F0 m 11 ls [.int 0, .int 0]) rfl ?_
  refine lv_icmp_ge (tgt := 53) hx hb dX12_wholeOf_11 (by decide) (fun _ => ?_) (fun h => absurd (by decide) h)
  refine lv_iload_n hx hb dX12_wholeOf_53 rfl (lv_at hl 1 rfl) ?_
  exact W.iret (v := 0) hx hb hr (fun t ht hW => ⟨0, rfl, rfl, ht⟩) (fun q h => by cases h) dX12_wholeOf_54
set_option maxHeartbeats 4000000 in
set_option maxRecDepth 100000 in
theorem c_X12_whole (l : Launch) (D : va_G) (k : Nat → ClassId) (b : Nat → Nat) : Met l yX12_whole wsX12_whole ({ frames := 1, cells := 0, slots := 0, locals := 22 }) (PreR D k [m0 k b, m1 k b] [.ref (b 0)]) (vp_Si (fun r => r = 0)) 0 0 (fun _ => False) := by
  refine Met.ofW (cc := cX12_whole) (maxL := 1) (ret := (some .int)) (by decide) rfl ?_
  intro p e s m args below meth c s₁ B hml hv
  obtain ⟨rfl, hP, hK⟩ := hv
  have hx := B.exec
  have hb := B.bytes
  have hr := B.returns
  have hts := atoms_spec (ws := wsX12_whole) B.pre
  have hown : s.vm.findClass RX12 = some m.cls := findClass_of_methodNamed B.named
  have hlocks := B.notSynchronized
  have hl := lv_entry ([.ref (b 0)]) (n := 1) (Nat.le_of_ble_eq_true rfl)
  rw [lg_entry_eq]
  generalize (lg_sl ([.ref (b 0)]) ++ List.replicate (1 - (lg_sl ([.ref (b 0)])).length) Slot.unset).toArray = ls at hl ⊢
  have hl : lv_has ls 1 [(0, .ref (b 0))] := hl
  refine lv_aload_n hx hb dX12_whole_0 rfl (lv_at hl 0 rfl) ?_
  refine pvi (C := RX12) (As := []) (rest := []) (wc := [m0 k b, m1 k b]) ⟨hx, hb, hml, hown, hts⟩ (c_X12_wholeOf l D k b ) (cwV 0 hts gX12_whole_X12_wholeOf rfl rfl rfl (by decide +kernel) ⟨Nat.le_of_ble_eq_true rfl, Nat.le_of_ble_eq_true rfl⟩) hP hK [0, 1] rfl 0 rfl rfl rfl rfl hl.1 rfl (Nat.le_of_ble_eq_true rfl) dX12_whole_1 ⟨Nat.le_of_ble_eq_true rfl, Nat.le_of_ble_eq_true rfl⟩ (fun r1 hr1 => ?_)
  obtain rfl := hr1
  exact W.iret (v := 0) hx hb hr (fun t ht hW => ⟨0, rfl, rfl, ht⟩) (fun q h => by cases h) dX12_whole_4
set_option maxHeartbeats 4000000 in
set_option maxRecDepth 100000 in
theorem c_X12_staying (l : Launch) (D : va_G) (k : Nat → ClassId) (b : Nat → Nat) (p1 : Int32) : Met l yX12_staying wsX12_staying ({ frames := 1, cells := 0, slots := 0, locals := 25 }) (PreR D k [m0 k b, m1 k b] [.ref (b 0), .int p1]) (vp_Si (fun r => r = (-2))) 0 0 (fun _ => False) := by
  refine Met.ofW (cc := cX12_staying) (maxL := 6) (ret := (some .int)) (by decide) rfl ?_
  intro p e s m args below meth c s₁ B hml hv
  obtain ⟨rfl, hP, hK⟩ := hv
  have hx := B.exec
  have hb := B.bytes
  have hr := B.returns
  have hts := atoms_spec (ws := wsX12_staying) B.pre
  have hown : s.vm.findClass RX12 = some m.cls := findClass_of_methodNamed B.named
  have hlocks := B.notSynchronized
  have i_X12 : ∀ w ∈ wsX120, w ∈ wsX12_staying := by decide +kernel
  have hl := lv_entry ([.ref (b 0), .int p1]) (n := 6) (Nat.le_of_ble_eq_true rfl)
  rw [lg_entry_eq]
  generalize (lg_sl ([.ref (b 0), .int p1]) ++ List.replicate (6 - (lg_sl ([.ref (b 0), .int p1])).length) Slot.unset).toArray = ls at hl ⊢
  have hl : lv_has ls 6 [(0, .ref (b 0)), (1, .int p1)] := hl
  refine lv_iload_n hx hb dX12_staying_0 rfl (lv_at hl 1 rfl) ?_
  refine lv_i2l hx hb dX12_staying_1 rfl ?_
  refine lv_lconst (v := 0) hx hb dX12_staying_2 (by decide) ?_
  refine lv_aload_n hx hb dX12_staying_3 rfl (lv_at hl 0 rfl) ?_
  refine va_get (D := D) (ci := 12) (v := .ref (b 1)) (C := RX12) (T := TX12) (N := 34) hx hb hts i_X12 hown hK hP 0 rfl rfl 1 (by decide) (hts (.fieldLink RX12 13 "BellowsRowModel" "world" "[I") (by decide +kernel)) (fun _ h9 => h9) rfl dX12_staying_4 ?_
  refine lv_iconst (v := 4) hx hb dX12_staying_7 (by decide) ?_
  refine va_iald hx hb hK hP 1 1 rfl rfl (vp_in_iff.mpr (by decide)) dX12_staying_8 ?_
  refine W.eq (g2 := F0 m 9 ls [.int 0, .long 0, .long p1.toInt64]) rfl ?_
  refine lv_iconst (v := 1) hx hb dX12_staying_9 (by decide) ?_
  refine lv_isub hx hb dX12_staying_10 ?_
  refine lv_topi (fun x1 ex1 => ?_)
  obtain rfl : x1 = (-1) := ex1.trans (by decide)
  refine lv_i2l (v := (-1)) hx hb dX12_staying_11 (by decide) ?_
  refine psi (As := [.long p1.toInt64, .long 0, .long (-1)]) (rest := []) ⟨hx, hb, hml, hown, hts⟩ (c_X12_in l D k p1.toInt64 (0 : Int64) (-1 : Int64)) (va_cwS 3 hts gX12_staying_X12_in rfl rfl rfl (by decide +kernel) ⟨Nat.le_of_ble_eq_true rfl, Nat.le_of_ble_eq_true rfl⟩) hK rfl hl.1 rfl (Nat.le_of_ble_eq_true rfl) dX12_staying_12 ⟨Nat.le_of_ble_eq_true rfl, Nat.le_of_ble_eq_true rfl⟩ (fun r2 hr2 => ?_)
  rcases hr2 with ⟨g3, rfl⟩ | ⟨g3, rfl⟩
  · exact False.elim (by (try simp only [i_lt, i_le, i_eq, Int32.toInt_toInt64, Int32.reduceToInt, Int64.reduceToInt] at g3); omega)
  refine lv_if_ne (tgt := 21) hx hb dX12_staying_15 (by decide) (fun h => absurd (by decide) h) (fun _ => ?_)
  refine lv_bipush (v := (-2)) hx hb dX12_staying_18 (by decide) ?_
  exact W.iret (v := (-2)) hx hb hr (fun t ht hW => ⟨(-2), rfl, rfl, ht⟩) (fun q h => by cases h) dX12_staying_20
set_option maxHeartbeats 4000000 in
set_option maxRecDepth 100000 in
theorem c_X12_whoOf (l : Launch) (D : va_G) (k : Nat → ClassId) (b : Nat → Nat) (p1 : Int32) (p2 : Int32) : Met l yX12_whoOf wsX12_whoOf ({ frames := 0, cells := 0, slots := 0, locals := 0 }) (PreR D k [m0 k b, m1 k b] [.ref (b 0), .int p1, .int p2]) (vp_Si (fun r => r = (-1))) 0 0 (fun _ => False) := by
  refine Met.ofW (cc := cX12_whoOf) (maxL := 4) (ret := (some .int)) (by decide) rfl ?_
  intro p e s m args below meth c s₁ B hml hv
  obtain ⟨rfl, hP, hK⟩ := hv
  have hx := B.exec
  have hb := B.bytes
  have hr := B.returns
  have hts := atoms_spec (ws := wsX12_whoOf) B.pre
  have hown : s.vm.findClass RX12 = some m.cls := findClass_of_methodNamed B.named
  have hlocks := B.notSynchronized
  have i_X12 : ∀ w ∈ wsX120, w ∈ wsX12_whoOf := by decide +kernel
  have hl := lv_entry ([.ref (b 0), .int p1, .int p2]) (n := 4) (Nat.le_of_ble_eq_true rfl)
  rw [lg_entry_eq]
  generalize (lg_sl ([.ref (b 0), .int p1, .int p2]) ++ List.replicate (4 - (lg_sl ([.ref (b 0), .int p1, .int p2])).length) Slot.unset).toArray = ls at hl ⊢
  have hl : lv_has ls 4 [(0, .ref (b 0)), (1, .int p1), (2, .int p2)] := hl
  refine lv_iconst (v := 0) hx hb dX12_whoOf_0 (by decide) ?_
  refine lv_istore_n (lv' := [(3, .int 0), (0, .ref (b 0)), (1, .int p1), (2, .int p2)]) hx hb dX12_whoOf_1 rfl hl (by decide) rfl (fun ls hl => ?_)
  refine lv_iload_n hx hb dX12_whoOf_2 rfl (lv_at hl 0 rfl) ?_
  refine lv_aload_n hx hb dX12_whoOf_3 rfl (lv_at hl 1 rfl) ?_
  refine va_get (D := D) (ci := 12) (v := .ref (b 1)) (C := RX12) (T := TX12) (N := 34) hx hb hts i_X12 hown hK hP 0 rfl rfl 1 (by decide) (hts (.fieldLink RX12 13 "BellowsRowModel" "world" "[I") (by decide +kernel)) (fun _ h9 => h9) rfl dX12_whoOf_4 ?_
  refine lv_iconst (v := 4) hx hb dX12_whoOf_7 (by decide) ?_
  refine va_iald hx hb hK hP 1 1 rfl rfl (vp_in_iff.mpr (by decide)) dX12_whoOf_8 ?_
  refine W.eq (g2 := F0 m 9 ls [.int 0, .int 0]) rfl ?_
  refine lv_icmp_ge (tgt := 48) hx hb dX12_whoOf_9 (by decide) (fun _ => ?_) (fun h => absurd (by decide) h)
  refine lv_iconst (v := (-1)) hx hb dX12_whoOf_48 (by decide) ?_
  exact W.iret (v := (-1)) hx hb hr (fun t ht hW => ⟨(-1), rfl, rfl, ht⟩) (fun q h => by cases h) dX12_whoOf_49
set_option maxHeartbeats 4000000 in
set_option maxRecDepth 100000 in
theorem c_X12_who (l : Launch) (D : va_G) (k : Nat → ClassId) (b : Nat → Nat) (p1 : Int32) (p2 : Int32) : Met l yX12_who wsX12_who ({ frames := 1, cells := 0, slots := 0, locals := 25 }) (PreR D k [m0 k b, m1 k b] [.ref (b 0), .int p1, .int p2]) (vp_Si (fun r => ((0 ≤ p1.toInt ∧ p1.toInt ≤ 3 ∧ 0 ≤ p2.toInt ∧ p2.toInt ≤ 999) ∧ r = (-1)) ∨ (¬ (0 ≤ p1.toInt ∧ p1.toInt ≤ 3 ∧ 0 ≤ p2.toInt ∧ p2.toInt ≤ 999) ∧ r = (-2)))) 0 0 (fun _ => False) := by
  refine Met.ofW (cc := cX12_who) (maxL := 3) (ret := (some .int)) (by decide) rfl ?_
  intro p e s m args below meth c s₁ B hml hv
  obtain ⟨rfl, hP, hK⟩ := hv
  have hx := B.exec
  have hb := B.bytes
  have hr := B.returns
  have hts := atoms_spec (ws := wsX12_who) B.pre
  have hown : s.vm.findClass RX12 = some m.cls := findClass_of_methodNamed B.named
  have hlocks := B.notSynchronized
  have hl := lv_entry ([.ref (b 0), .int p1, .int p2]) (n := 3) (Nat.le_of_ble_eq_true rfl)
  rw [lg_entry_eq]
  generalize (lg_sl ([.ref (b 0), .int p1, .int p2]) ++ List.replicate (3 - (lg_sl ([.ref (b 0), .int p1, .int p2])).length) Slot.unset).toArray = ls at hl ⊢
  have hl : lv_has ls 3 [(0, .ref (b 0)), (1, .int p1), (2, .int p2)] := hl
  refine lv_iload_n hx hb dX12_who_0 rfl (lv_at hl 1 rfl) ?_
  refine lv_i2l hx hb dX12_who_1 rfl ?_
  refine lv_lconst (v := 0) hx hb dX12_who_2 (by decide) ?_
  refine lv_ldc2 (own := RX12) (v := 3) hx hb hown (hts (.constantLong RX12 334 (3)) (by decide +kernel)) dX12_who_3 ?_
  refine psi (As := [.long p1.toInt64, .long 0, .long 3]) (rest := []) ⟨hx, hb, hml, hown, hts⟩ (c_X12_in l D k p1.toInt64 (0 : Int64) (3 : Int64)) (va_cwS 3 hts gX12_who_X12_in rfl rfl rfl (by decide +kernel) ⟨Nat.le_of_ble_eq_true rfl, Nat.le_of_ble_eq_true rfl⟩) hK rfl hl.1 rfl (Nat.le_of_ble_eq_true rfl) dX12_who_6 ⟨Nat.le_of_ble_eq_true rfl, Nat.le_of_ble_eq_true rfl⟩ (fun r1 hr1 => ?_)
  rcases hr1 with ⟨g2, rfl⟩ | ⟨g2, rfl⟩
  · refine lv_if_eq (tgt := 33) hx hb dX12_who_9 (by decide) (fun h => absurd h (by decide)) (fun _ => ?_)
    refine lv_iload_n hx hb dX12_who_12 rfl (lv_at hl 2 rfl) ?_
    refine lv_i2l hx hb dX12_who_13 rfl ?_
    refine lv_lconst (v := 0) hx hb dX12_who_14 (by decide) ?_
    refine lv_ldc2 (own := RX12) (v := 999) hx hb hown (hts (.constantLong RX12 80 (999)) (by decide +kernel)) dX12_who_15 ?_
    refine psi (As := [.long p2.toInt64, .long 0, .long 999]) (rest := []) ⟨hx, hb, hml, hown, hts⟩ (c_X12_in l D k p2.toInt64 (0 : Int64) (999 : Int64)) (va_cwS 3 hts gX12_who_X12_in rfl rfl rfl (by decide +kernel) ⟨Nat.le_of_ble_eq_true rfl, Nat.le_of_ble_eq_true rfl⟩) hK rfl hl.1 rfl (Nat.le_of_ble_eq_true rfl) dX12_who_18 ⟨Nat.le_of_ble_eq_true rfl, Nat.le_of_ble_eq_true rfl⟩ (fun r3 hr3 => ?_)
    rcases hr3 with ⟨g4, rfl⟩ | ⟨g4, rfl⟩
    · refine lv_if_eq (tgt := 33) hx hb dX12_who_21 (by decide) (fun h => absurd h (by decide)) (fun _ => ?_)
      refine lv_aload_n hx hb dX12_who_24 rfl (lv_at hl 0 rfl) ?_
      refine lv_iload_n hx hb dX12_who_25 rfl (lv_at hl 1 rfl) ?_
      refine lv_iload_n hx hb dX12_who_26 rfl (lv_at hl 2 rfl) ?_
      refine pvi (C := RX12) (As := [.int p1, .int p2]) (rest := []) (wc := [m0 k b, m1 k b]) ⟨hx, hb, hml, hown, hts⟩ (c_X12_whoOf l D k b p1 p2) (cwV 2 hts gX12_who_X12_whoOf rfl rfl rfl (by decide +kernel) ⟨Nat.le_of_ble_eq_true rfl, Nat.le_of_ble_eq_true rfl⟩) hP hK [0, 1] rfl 0 rfl rfl rfl rfl hl.1 rfl (Nat.le_of_ble_eq_true rfl) dX12_who_27 ⟨Nat.le_of_ble_eq_true rfl, Nat.le_of_ble_eq_true rfl⟩ (fun r5 hr5 => ?_)
      obtain rfl := hr5
      refine lv_goto (tgt := 35) hx hb dX12_who_30 (by decide) ?_
      exact W.iret (v := (-1)) hx hb hr (fun t ht hW => ⟨(-1), rfl, Or.inl ⟨by (try simp only [i_lt, i_le, i_eq, Int32.toInt_toInt64, Int32.reduceToInt, Int64.reduceToInt] at g2 g4 ⊢); omega, rfl⟩, ht⟩) (fun q h => by cases h) dX12_who_35
    · refine lv_if_eq (tgt := 33) hx hb dX12_who_21 (by decide) (fun _ => ?_) (fun h => absurd (by decide) h)
      refine lv_bipush (v := (-2)) hx hb dX12_who_33 (by decide) ?_
      exact W.iret (v := (-2)) hx hb hr (fun t ht hW => ⟨(-2), rfl, Or.inr ⟨by (try simp only [i_lt, i_le, i_eq, Int32.toInt_toInt64, Int32.reduceToInt, Int64.reduceToInt] at g2 g4 ⊢); omega, rfl⟩, ht⟩) (fun q h => by cases h) dX12_who_35
  · refine lv_if_eq (tgt := 33) hx hb dX12_who_9 (by decide) (fun _ => ?_) (fun h => absurd (by decide) h)
    refine lv_bipush (v := (-2)) hx hb dX12_who_33 (by decide) ?_
    exact W.iret (v := (-2)) hx hb hr (fun t ht hW => ⟨(-2), rfl, Or.inr ⟨by (try simp only [i_lt, i_le, i_eq, Int32.toInt_toInt64, Int32.reduceToInt, Int64.reduceToInt] at g2 ⊢); omega, rfl⟩, ht⟩) (fun q h => by cases h) dX12_who_35
set_option maxHeartbeats 4000000 in
set_option maxRecDepth 100000 in
theorem c_X12_heldBy (l : Launch) (D : va_G) (k : Nat → ClassId) (b : Nat → Nat) (p1 : Int32) (p2 : Int32) : Met l yX12_heldBy wsX12_heldBy ({ frames := 0, cells := 0, slots := 0, locals := 0 }) (PreR D k [m0 k b, m1 k b] [.ref (b 0), .int p1, .int p2]) (vp_Si (fun r => r = 0)) 0 0 (fun _ => False) := by
  refine Met.ofW (cc := cX12_heldBy) (maxL := 7) (ret := (some .int)) (by decide) rfl ?_
  intro p e s m args below meth c s₁ B hml hv
  obtain ⟨rfl, hP, hK⟩ := hv
  have hx := B.exec
  have hb := B.bytes
  have hr := B.returns
  have hts := atoms_spec (ws := wsX12_heldBy) B.pre
  have hown : s.vm.findClass RX12 = some m.cls := findClass_of_methodNamed B.named
  have hlocks := B.notSynchronized
  have i_X12 : ∀ w ∈ wsX120, w ∈ wsX12_heldBy := by decide +kernel
  have hl := lv_entry ([.ref (b 0), .int p1, .int p2]) (n := 7) (Nat.le_of_ble_eq_true rfl)
  rw [lg_entry_eq]
  generalize (lg_sl ([.ref (b 0), .int p1, .int p2]) ++ List.replicate (7 - (lg_sl ([.ref (b 0), .int p1, .int p2])).length) Slot.unset).toArray = ls at hl ⊢
  have hl : lv_has ls 7 [(0, .ref (b 0)), (1, .int p1), (2, .int p2)] := hl
  refine lv_iconst (v := 0) hx hb dX12_heldBy_0 (by decide) ?_
  refine lv_istore_n (lv' := [(3, .int 0), (0, .ref (b 0)), (1, .int p1), (2, .int p2)]) hx hb dX12_heldBy_1 rfl hl (by decide) rfl (fun ls hl => ?_)
  refine lv_iconst (v := 0) hx hb dX12_heldBy_2 (by decide) ?_
  refine lv_istore (lv' := [(4, .int 0), (3, .int 0), (0, .ref (b 0)), (1, .int p1), (2, .int p2)]) hx hb dX12_heldBy_3 hl (by decide) rfl (fun ls hl => ?_)
  refine lv_iload hx hb dX12_heldBy_5 (lv_at hl 0 rfl) ?_
  refine lv_aload_n hx hb dX12_heldBy_7 rfl (lv_at hl 2 rfl) ?_
  refine va_get (D := D) (ci := 12) (v := .ref (b 1)) (C := RX12) (T := TX12) (N := 34) hx hb hts i_X12 hown hK hP 0 rfl rfl 1 (by decide) (hts (.fieldLink RX12 13 "BellowsRowModel" "world" "[I") (by decide +kernel)) (fun _ h9 => h9) rfl dX12_heldBy_8 ?_
  refine lv_iconst (v := 5) hx hb dX12_heldBy_11 (by decide) ?_
  refine va_iald hx hb hK hP 1 1 rfl rfl (vp_in_iff.mpr (by decide)) dX12_heldBy_12 ?_
  refine W.eq (g2 := F0 m 13 ls [.int 0, .int 0]) rfl ?_
  refine lv_icmp_ge (tgt := 102) hx hb dX12_heldBy_13 (by decide) (fun _ => ?_) (fun h => absurd (by decide) h)
  refine lv_iload_n hx hb dX12_heldBy_102 rfl (lv_at hl 1 rfl) ?_
  exact W.iret (v := 0) hx hb hr (fun t ht hW => ⟨0, rfl, rfl, ht⟩) (fun q h => by cases h) dX12_heldBy_103
set_option maxHeartbeats 4000000 in
set_option maxRecDepth 100000 in
theorem c_X12_held (l : Launch) (D : va_G) (k : Nat → ClassId) (b : Nat → Nat) (p1 : Int32) (p2 : Int32) : Met l yX12_held wsX12_held ({ frames := 1, cells := 0, slots := 0, locals := 26 }) (PreR D k [m0 k b, m1 k b] [.ref (b 0), .int p1, .int p2]) (vp_Si (fun r => ((0 ≤ p1.toInt ∧ p1.toInt ≤ 65535) ∧ r = 0) ∨ (¬ (0 ≤ p1.toInt ∧ p1.toInt ≤ 65535) ∧ r = (-2)))) 0 0 (fun _ => False) := by
  refine Met.ofW (cc := cX12_held) (maxL := 3) (ret := (some .int)) (by decide) rfl ?_
  intro p e s m args below meth c s₁ B hml hv
  obtain ⟨rfl, hP, hK⟩ := hv
  have hx := B.exec
  have hb := B.bytes
  have hr := B.returns
  have hts := atoms_spec (ws := wsX12_held) B.pre
  have hown : s.vm.findClass RX12 = some m.cls := findClass_of_methodNamed B.named
  have hlocks := B.notSynchronized
  have hl := lv_entry ([.ref (b 0), .int p1, .int p2]) (n := 3) (Nat.le_of_ble_eq_true rfl)
  rw [lg_entry_eq]
  generalize (lg_sl ([.ref (b 0), .int p1, .int p2]) ++ List.replicate (3 - (lg_sl ([.ref (b 0), .int p1, .int p2])).length) Slot.unset).toArray = ls at hl ⊢
  have hl : lv_has ls 3 [(0, .ref (b 0)), (1, .int p1), (2, .int p2)] := hl
  refine lv_iload_n hx hb dX12_held_0 rfl (lv_at hl 1 rfl) ?_
  refine lv_i2l hx hb dX12_held_1 rfl ?_
  refine lv_lconst (v := 0) hx hb dX12_held_2 (by decide) ?_
  refine lv_ldc2 (own := RX12) (v := 65535) hx hb hown (hts (.constantLong RX12 474 (65535)) (by decide +kernel)) dX12_held_3 ?_
  refine psi (As := [.long p1.toInt64, .long 0, .long 65535]) (rest := []) ⟨hx, hb, hml, hown, hts⟩ (c_X12_in l D k p1.toInt64 (0 : Int64) (65535 : Int64)) (va_cwS 3 hts gX12_held_X12_in rfl rfl rfl (by decide +kernel) ⟨Nat.le_of_ble_eq_true rfl, Nat.le_of_ble_eq_true rfl⟩) hK rfl hl.1 rfl (Nat.le_of_ble_eq_true rfl) dX12_held_6 ⟨Nat.le_of_ble_eq_true rfl, Nat.le_of_ble_eq_true rfl⟩ (fun r1 hr1 => ?_)
  rcases hr1 with ⟨g2, rfl⟩ | ⟨g2, rfl⟩
  · refine lv_if_eq (tgt := 21) hx hb dX12_held_9 (by decide) (fun h => absurd h (by decide)) (fun _ => ?_)
    refine lv_aload_n hx hb dX12_held_12 rfl (lv_at hl 0 rfl) ?_
    refine lv_iload_n hx hb dX12_held_13 rfl (lv_at hl 1 rfl) ?_
    refine lv_iload_n hx hb dX12_held_14 rfl (lv_at hl 2 rfl) ?_
    refine pvi (C := RX12) (As := [.int p1, .int p2]) (rest := []) (wc := [m0 k b, m1 k b]) ⟨hx, hb, hml, hown, hts⟩ (c_X12_heldBy l D k b p1 p2) (cwV 2 hts gX12_held_X12_heldBy rfl rfl rfl (by decide +kernel) ⟨Nat.le_of_ble_eq_true rfl, Nat.le_of_ble_eq_true rfl⟩) hP hK [0, 1] rfl 0 rfl rfl rfl rfl hl.1 rfl (Nat.le_of_ble_eq_true rfl) dX12_held_15 ⟨Nat.le_of_ble_eq_true rfl, Nat.le_of_ble_eq_true rfl⟩ (fun r3 hr3 => ?_)
    obtain rfl := hr3
    refine lv_goto (tgt := 23) hx hb dX12_held_18 (by decide) ?_
    exact W.iret (v := 0) hx hb hr (fun t ht hW => ⟨0, rfl, Or.inl ⟨by (try simp only [i_lt, i_le, i_eq, Int32.toInt_toInt64, Int32.reduceToInt, Int64.reduceToInt] at g2 ⊢); omega, rfl⟩, ht⟩) (fun q h => by cases h) dX12_held_23
  · refine lv_if_eq (tgt := 21) hx hb dX12_held_9 (by decide) (fun _ => ?_) (fun h => absurd (by decide) h)
    refine lv_bipush (v := (-2)) hx hb dX12_held_21 (by decide) ?_
    exact W.iret (v := (-2)) hx hb hr (fun t ht hW => ⟨(-2), rfl, Or.inr ⟨by (try simp only [i_lt, i_le, i_eq, Int32.toInt_toInt64, Int32.reduceToInt, Int64.reduceToInt] at g2 ⊢); omega, rfl⟩, ht⟩) (fun q h => by cases h) dX12_held_23
set_option maxHeartbeats 4000000 in
set_option maxRecDepth 100000 in
theorem c_X12_count (l : Launch) (D : va_G) (k : Nat → ClassId) (b : Nat → Nat) (p1 : Int32) : Met l yX12_count wsX12_count ({ frames := 0, cells := 0, slots := 0, locals := 0 }) (PreR D k [m0 k b, m1 k b, m14 k b] [.ref (b 0), .int p1]) (vp_Si (fun r => ((0 ≤ p1.toInt ∧ p1.toInt ≤ 9) ∧ r = 0) ∨ (¬ (0 ≤ p1.toInt ∧ p1.toInt ≤ 9) ∧ r = (-1)))) 0 0 (fun _ => False) := by
  refine Met.ofW (cc := cX12_count) (maxL := 4) (ret := (some .int)) (by decide) rfl ?_
  intro p e s m args below meth c s₁ B hml hv
  obtain ⟨rfl, hP, hK⟩ := hv
  have hx := B.exec
  have hb := B.bytes
  have hr := B.returns
  have hts := atoms_spec (ws := wsX12_count) B.pre
  have hown : s.vm.findClass RX12 = some m.cls := findClass_of_methodNamed B.named
  have hlocks := B.notSynchronized
  have i_X12 : ∀ w ∈ wsX120, w ∈ wsX12_count := by decide +kernel
  have hl := lv_entry ([.ref (b 0), .int p1]) (n := 4) (Nat.le_of_ble_eq_true rfl)
  rw [lg_entry_eq]
  generalize (lg_sl ([.ref (b 0), .int p1]) ++ List.replicate (4 - (lg_sl ([.ref (b 0), .int p1])).length) Slot.unset).toArray = ls at hl ⊢
  have hl : lv_has ls 4 [(0, .ref (b 0)), (1, .int p1)] := hl
  refine lv_iconst (v := 0) hx hb dX12_count_0 (by decide) ?_
  refine lv_istore_n (lv' := [(2, .int 0), (0, .ref (b 0)), (1, .int p1)]) hx hb dX12_count_1 rfl hl (by decide) rfl (fun ls hl => ?_)
  refine lv_iload_n hx hb dX12_count_2 rfl (lv_at hl 2 rfl) ?_
  by_cases k1 : p1 = 0
  · refine lv_tableIn (tgt := 56) hx hb dX12_count_3 (by rw [k1]; decide) (by rw [k1]; decide) (by rw [k1]; rfl) (by decide) ?_
    refine lv_aload_n hx hb dX12_count_56 rfl (lv_at hl 1 rfl) ?_
    refine va_get (D := D) (ci := 12) (v := .ref (b 1)) (C := RX12) (T := TX12) (N := 34) hx hb hts i_X12 hown hK hP 0 rfl rfl 1 (by decide) (hts (.fieldLink RX12 13 "BellowsRowModel" "world" "[I") (by decide +kernel)) (fun _ h9 => h9) rfl dX12_count_57 ?_
    refine lv_iconst (v := 1) hx hb dX12_count_60 (by decide) ?_
    refine va_iald hx hb hK hP 1 1 rfl rfl (vp_in_iff.mpr (by decide)) dX12_count_61 ?_
    refine W.eq (g2 := F0 m 62 ls [.int 0]) rfl ?_
    exact W.iret (v := 0) hx hb hr (fun t ht hW => ⟨0, rfl, Or.inl ⟨by (try simp only [i_lt, i_le, i_eq, Int32.toInt_toInt64, Int32.reduceToInt, Int64.reduceToInt] at k1 ⊢); omega, rfl⟩, ht⟩) (fun q h => by cases h) dX12_count_62
  by_cases k2 : p1 = 1
  · refine lv_tableIn (tgt := 63) hx hb dX12_count_3 (by rw [k2]; decide) (by rw [k2]; decide) (by rw [k2]; rfl) (by decide) ?_
    refine lv_aload_n hx hb dX12_count_63 rfl (lv_at hl 1 rfl) ?_
    refine va_get (D := D) (ci := 12) (v := .ref (b 1)) (C := RX12) (T := TX12) (N := 34) hx hb hts i_X12 hown hK hP 0 rfl rfl 1 (by decide) (hts (.fieldLink RX12 13 "BellowsRowModel" "world" "[I") (by decide +kernel)) (fun _ h9 => h9) rfl dX12_count_64 ?_
    refine lv_iconst (v := 2) hx hb dX12_count_67 (by decide) ?_
    refine va_iald hx hb hK hP 1 1 rfl rfl (vp_in_iff.mpr (by decide)) dX12_count_68 ?_
    refine W.eq (g2 := F0 m 69 ls [.int 0]) rfl ?_
    exact W.iret (v := 0) hx hb hr (fun t ht hW => ⟨0, rfl, Or.inl ⟨by (try simp only [i_lt, i_le, i_eq, Int32.toInt_toInt64, Int32.reduceToInt, Int64.reduceToInt] at k2 ⊢); omega, rfl⟩, ht⟩) (fun q h => by cases h) dX12_count_69
  by_cases k3 : p1 = 2
  · refine lv_tableIn (tgt := 70) hx hb dX12_count_3 (by rw [k3]; decide) (by rw [k3]; decide) (by rw [k3]; rfl) (by decide) ?_
    refine lv_aload_n hx hb dX12_count_70 rfl (lv_at hl 1 rfl) ?_
    refine va_get (D := D) (ci := 12) (v := .ref (b 1)) (C := RX12) (T := TX12) (N := 34) hx hb hts i_X12 hown hK hP 0 rfl rfl 1 (by decide) (hts (.fieldLink RX12 13 "BellowsRowModel" "world" "[I") (by decide +kernel)) (fun _ h9 => h9) rfl dX12_count_71 ?_
    refine lv_bipush (v := 6) hx hb dX12_count_74 (by decide) ?_
    refine va_iald hx hb hK hP 1 1 rfl rfl (vp_in_iff.mpr (by decide)) dX12_count_76 ?_
    refine W.eq (g2 := F0 m 77 ls [.int 0]) rfl ?_
    exact W.iret (v := 0) hx hb hr (fun t ht hW => ⟨0, rfl, Or.inl ⟨by (try simp only [i_lt, i_le, i_eq, Int32.toInt_toInt64, Int32.reduceToInt, Int64.reduceToInt] at k3 ⊢); omega, rfl⟩, ht⟩) (fun q h => by cases h) dX12_count_77
  by_cases k4 : p1 = 3
  · refine lv_tableIn (tgt := 78) hx hb dX12_count_3 (by rw [k4]; decide) (by rw [k4]; decide) (by rw [k4]; rfl) (by decide) ?_
    refine lv_aload_n hx hb dX12_count_78 rfl (lv_at hl 1 rfl) ?_
    refine va_get (D := D) (ci := 12) (v := .ref (b 1)) (C := RX12) (T := TX12) (N := 34) hx hb hts i_X12 hown hK hP 0 rfl rfl 1 (by decide) (hts (.fieldLink RX12 13 "BellowsRowModel" "world" "[I") (by decide +kernel)) (fun _ h9 => h9) rfl dX12_count_79 ?_
    refine lv_iconst (v := 3) hx hb dX12_count_82 (by decide) ?_
    refine va_iald hx hb hK hP 1 1 rfl rfl (vp_in_iff.mpr (by decide)) dX12_count_83 ?_
    refine W.eq (g2 := F0 m 84 ls [.int 0]) rfl ?_
    exact W.iret (v := 0) hx hb hr (fun t ht hW => ⟨0, rfl, Or.inl ⟨by (try simp only [i_lt, i_le, i_eq, Int32.toInt_toInt64, Int32.reduceToInt, Int64.reduceToInt] at k4 ⊢); omega, rfl⟩, ht⟩) (fun q h => by cases h) dX12_count_84
  by_cases k5 : p1 = 4
  · refine lv_tableIn (tgt := 85) hx hb dX12_count_3 (by rw [k5]; decide) (by rw [k5]; decide) (by rw [k5]; rfl) (by decide) ?_
    refine lv_aload_n hx hb dX12_count_85 rfl (lv_at hl 1 rfl) ?_
    refine va_get (D := D) (ci := 12) (v := .ref (b 1)) (C := RX12) (T := TX12) (N := 34) hx hb hts i_X12 hown hK hP 0 rfl rfl 1 (by decide) (hts (.fieldLink RX12 13 "BellowsRowModel" "world" "[I") (by decide +kernel)) (fun _ h9 => h9) rfl dX12_count_86 ?_
    refine lv_iconst (v := 4) hx hb dX12_count_89 (by decide) ?_
    refine va_iald hx hb hK hP 1 1 rfl rfl (vp_in_iff.mpr (by decide)) dX12_count_90 ?_
    refine W.eq (g2 := F0 m 91 ls [.int 0]) rfl ?_
    exact W.iret (v := 0) hx hb hr (fun t ht hW => ⟨0, rfl, Or.inl ⟨by (try simp only [i_lt, i_le, i_eq, Int32.toInt_toInt64, Int32.reduceToInt, Int64.reduceToInt] at k5 ⊢); omega, rfl⟩, ht⟩) (fun q h => by cases h) dX12_count_91
  by_cases k6 : p1 = 5
  · refine lv_tableIn (tgt := 92) hx hb dX12_count_3 (by rw [k6]; decide) (by rw [k6]; decide) (by rw [k6]; rfl) (by decide) ?_
    refine lv_aload_n hx hb dX12_count_92 rfl (lv_at hl 1 rfl) ?_
    refine va_get (D := D) (ci := 12) (v := .ref (b 1)) (C := RX12) (T := TX12) (N := 34) hx hb hts i_X12 hown hK hP 0 rfl rfl 1 (by decide) (hts (.fieldLink RX12 13 "BellowsRowModel" "world" "[I") (by decide +kernel)) (fun _ h9 => h9) rfl dX12_count_93 ?_
    refine lv_iconst (v := 5) hx hb dX12_count_96 (by decide) ?_
    refine va_iald hx hb hK hP 1 1 rfl rfl (vp_in_iff.mpr (by decide)) dX12_count_97 ?_
    refine W.eq (g2 := F0 m 98 ls [.int 0]) rfl ?_
    exact W.iret (v := 0) hx hb hr (fun t ht hW => ⟨0, rfl, Or.inl ⟨by (try simp only [i_lt, i_le, i_eq, Int32.toInt_toInt64, Int32.reduceToInt, Int64.reduceToInt] at k6 ⊢); omega, rfl⟩, ht⟩) (fun q h => by cases h) dX12_count_98
  by_cases k7 : p1 = 6
  · refine lv_tableIn (tgt := 99) hx hb dX12_count_3 (by rw [k7]; decide) (by rw [k7]; decide) (by rw [k7]; rfl) (by decide) ?_
    refine lv_aload_n hx hb dX12_count_99 rfl (lv_at hl 1 rfl) ?_
    refine va_get (D := D) (ci := 12) (v := .ref (b 1)) (C := RX12) (T := TX12) (N := 34) hx hb hts i_X12 hown hK hP 0 rfl rfl 1 (by decide) (hts (.fieldLink RX12 13 "BellowsRowModel" "world" "[I") (by decide +kernel)) (fun _ h9 => h9) rfl dX12_count_100 ?_
    refine lv_bipush (v := 9) hx hb dX12_count_103 (by decide) ?_
    refine va_iald hx hb hK hP 1 1 rfl rfl (vp_in_iff.mpr (by decide)) dX12_count_105 ?_
    refine W.eq (g2 := F0 m 106 ls [.int 0]) rfl ?_
    exact W.iret (v := 0) hx hb hr (fun t ht hW => ⟨0, rfl, Or.inl ⟨by (try simp only [i_lt, i_le, i_eq, Int32.toInt_toInt64, Int32.reduceToInt, Int64.reduceToInt] at k7 ⊢); omega, rfl⟩, ht⟩) (fun q h => by cases h) dX12_count_106
  by_cases k8 : p1 = 7
  · refine lv_tableIn (tgt := 107) hx hb dX12_count_3 (by rw [k8]; decide) (by rw [k8]; decide) (by rw [k8]; rfl) (by decide) ?_
    refine lv_aload_n hx hb dX12_count_107 rfl (lv_at hl 1 rfl) ?_
    refine va_get (D := D) (ci := 12) (v := .ref (b 1)) (C := RX12) (T := TX12) (N := 34) hx hb hts i_X12 hown hK hP 0 rfl rfl 1 (by decide) (hts (.fieldLink RX12 13 "BellowsRowModel" "world" "[I") (by decide +kernel)) (fun _ h9 => h9) rfl dX12_count_108 ?_
    refine lv_iconst (v := 0) hx hb dX12_count_111 (by decide) ?_
    refine va_iald hx hb hK hP 1 1 rfl rfl (vp_in_iff.mpr (by decide)) dX12_count_112 ?_
    refine W.eq (g2 := F0 m 113 ls [.int 0]) rfl ?_
    exact W.iret (v := 0) hx hb hr (fun t ht hW => ⟨0, rfl, Or.inl ⟨by (try simp only [i_lt, i_le, i_eq, Int32.toInt_toInt64, Int32.reduceToInt, Int64.reduceToInt] at k8 ⊢); omega, rfl⟩, ht⟩) (fun q h => by cases h) dX12_count_113
  by_cases k9 : p1 = 8
  · refine lv_tableIn (tgt := 114) hx hb dX12_count_3 (by rw [k9]; decide) (by rw [k9]; decide) (by rw [k9]; rfl) (by decide) ?_
    refine lv_aload_n hx hb dX12_count_114 rfl (lv_at hl 1 rfl) ?_
    refine va_get (D := D) (ci := 12) (v := .int 0) (C := RX12) (T := TX12) (N := 34) hx hb hts i_X12 hown hK hP 0 rfl rfl 5 (by decide) (hts (.fieldLink RX12 82 "BellowsRowModel" "taped" "I") (by decide +kernel)) (fun _ h9 => h9) rfl dX12_count_115 ?_
    exact W.iret (v := 0) hx hb hr (fun t ht hW => ⟨0, rfl, Or.inl ⟨by (try simp only [i_lt, i_le, i_eq, Int32.toInt_toInt64, Int32.reduceToInt, Int64.reduceToInt] at k9 ⊢); omega, rfl⟩, ht⟩) (fun q h => by cases h) dX12_count_118
  by_cases k10 : p1 = 9
  · refine lv_tableIn (tgt := 119) hx hb dX12_count_3 (by rw [k10]; decide) (by rw [k10]; decide) (by rw [k10]; rfl) (by decide) ?_
    refine lv_iconst (v := 0) hx hb dX12_count_119 (by decide) ?_
    refine lv_istore_n (lv' := [(3, .int 0), (2, .int 0), (0, .ref (b 0)), (1, .int p1)]) hx hb dX12_count_120 rfl hl (by decide) rfl (fun ls hl => ?_)
    refine lv_iload_n hx hb dX12_count_121 rfl (lv_at hl 0 rfl) ?_
    refine lv_iconst (v := 4) hx hb dX12_count_122 (by decide) ?_
    refine lv_icmp_ge (tgt := 150) hx hb dX12_count_123 (by decide) (fun h => absurd h (by decide)) (fun _ => ?_)
    refine lv_iload_n hx hb dX12_count_126 rfl (lv_at hl 1 rfl) ?_
    refine lv_aload_n hx hb dX12_count_127 rfl (lv_at hl 2 rfl) ?_
    refine va_get (D := D) (ci := 12) (v := .ref (b 14)) (C := RX12) (T := TX12) (N := 34) hx hb hts i_X12 hown hK hP 0 rfl rfl 30 (by decide) (hts (.fieldLink RX12 61 "BellowsRowModel" "slotMany" "[I") (by decide +kernel)) (fun _ h9 => h9) rfl dX12_count_128 ?_
    refine lv_iload_n hx hb dX12_count_131 rfl (lv_at hl 0 rfl) ?_
    refine va_iald hx hb hK hP 2 1 rfl rfl (vp_in_iff.mpr (by decide)) dX12_count_132 ?_
    refine W.eq (g2 := F0 m 133 ls [.int (-1), .int 0]) rfl ?_
    refine lv_iconst (v := (-1)) hx hb dX12_count_133 (by decide) ?_
    refine lv_icmp_ne (tgt := 141) hx hb dX12_count_134 (by decide) (fun h => absurd (by decide) h) (fun _ => ?_)
    refine lv_iconst (v := 0) hx hb dX12_count_137 (by decide) ?_
    refine lv_goto (tgt := 142) hx hb dX12_count_138 (by decide) ?_
    refine lv_iadd hx hb dX12_count_142 ?_
    refine lv_topi (fun x11 ex11 => ?_)
    obtain rfl : x11 = 0 := ex11.trans (by decide)
    refine lv_istore_n (lv' := [(2, .int 0), (3, .int 0), (0, .ref (b 0)), (1, .int p1)]) hx hb dX12_count_143 rfl hl (by decide) rfl (fun ls hl => ?_)
    refine lv_iinc (v := 1) (lv' := [(3, .int 1), (2, .int 0), (0, .ref (b 0)), (1, .int p1)]) hx hb dX12_count_144 hl (k := 1) rfl (by decide) (by decide) rfl (fun ls hl => ?_)
    refine lv_goto (tgt := 121) hx hb dX12_count_147 (by decide) ?_
    refine lv_iload_n hx hb dX12_count_121 rfl (lv_at hl 0 rfl) ?_
    refine lv_iconst (v := 4) hx hb dX12_count_122 (by decide) ?_
    refine lv_icmp_ge (tgt := 150) hx hb dX12_count_123 (by decide) (fun h => absurd h (by decide)) (fun _ => ?_)
    refine lv_iload_n hx hb dX12_count_126 rfl (lv_at hl 1 rfl) ?_
    refine lv_aload_n hx hb dX12_count_127 rfl (lv_at hl 2 rfl) ?_
    refine va_get (D := D) (ci := 12) (v := .ref (b 14)) (C := RX12) (T := TX12) (N := 34) hx hb hts i_X12 hown hK hP 0 rfl rfl 30 (by decide) (hts (.fieldLink RX12 61 "BellowsRowModel" "slotMany" "[I") (by decide +kernel)) (fun _ h9 => h9) rfl dX12_count_128 ?_
    refine lv_iload_n hx hb dX12_count_131 rfl (lv_at hl 0 rfl) ?_
    refine va_iald hx hb hK hP 2 1 rfl rfl (vp_in_iff.mpr (by decide)) dX12_count_132 ?_
    refine W.eq (g2 := F0 m 133 ls [.int (-1), .int 0]) rfl ?_
    refine lv_iconst (v := (-1)) hx hb dX12_count_133 (by decide) ?_
    refine lv_icmp_ne (tgt := 141) hx hb dX12_count_134 (by decide) (fun h => absurd (by decide) h) (fun _ => ?_)
    refine lv_iconst (v := 0) hx hb dX12_count_137 (by decide) ?_
    refine lv_goto (tgt := 142) hx hb dX12_count_138 (by decide) ?_
    refine lv_iadd hx hb dX12_count_142 ?_
    refine lv_topi (fun x12 ex12 => ?_)
    obtain rfl : x12 = 0 := ex12.trans (by decide)
    refine lv_istore_n (lv' := [(2, .int 0), (3, .int 1), (0, .ref (b 0)), (1, .int p1)]) hx hb dX12_count_143 rfl hl (by decide) rfl (fun ls hl => ?_)
    refine lv_iinc (v := 2) (lv' := [(3, .int 2), (2, .int 0), (0, .ref (b 0)), (1, .int p1)]) hx hb dX12_count_144 hl (k := 1) rfl (by decide) (by decide) rfl (fun ls hl => ?_)
    refine lv_goto (tgt := 121) hx hb dX12_count_147 (by decide) ?_
    refine lv_iload_n hx hb dX12_count_121 rfl (lv_at hl 0 rfl) ?_
    refine lv_iconst (v := 4) hx hb dX12_count_122 (by decide) ?_
    refine lv_icmp_ge (tgt := 150) hx hb dX12_count_123 (by decide) (fun h => absurd h (by decide)) (fun _ => ?_)
    refine lv_iload_n hx hb dX12_count_126 rfl (lv_at hl 1 rfl) ?_
    refine lv_aload_n hx hb dX12_count_127 rfl (lv_at hl 2 rfl) ?_
    refine va_get (D := D) (ci := 12) (v := .ref (b 14)) (C := RX12) (T := TX12) (N := 34) hx hb hts i_X12 hown hK hP 0 rfl rfl 30 (by decide) (hts (.fieldLink RX12 61 "BellowsRowModel" "slotMany" "[I") (by decide +kernel)) (fun _ h9 => h9) rfl dX12_count_128 ?_
    refine lv_iload_n hx hb dX12_count_131 rfl (lv_at hl 0 rfl) ?_
    refine va_iald hx hb hK hP 2 1 rfl rfl (vp_in_iff.mpr (by decide)) dX12_count_132 ?_
    refine W.eq (g2 := F0 m 133 ls [.int (-1), .int 0]) rfl ?_
    refine lv_iconst (v := (-1)) hx hb dX12_count_133 (by decide) ?_
    refine lv_icmp_ne (tgt := 141) hx hb dX12_count_134 (by decide) (fun h => absurd (by decide) h) (fun _ => ?_)
    refine lv_iconst (v := 0) hx hb dX12_count_137 (by decide) ?_
    refine lv_goto (tgt := 142) hx hb dX12_count_138 (by decide) ?_
    refine lv_iadd hx hb dX12_count_142 ?_
    refine lv_topi (fun x13 ex13 => ?_)
    obtain rfl : x13 = 0 := ex13.trans (by decide)
    refine lv_istore_n (lv' := [(2, .int 0), (3, .int 2), (0, .ref (b 0)), (1, .int p1)]) hx hb dX12_count_143 rfl hl (by decide) rfl (fun ls hl => ?_)
    refine lv_iinc (v := 3) (lv' := [(3, .int 3), (2, .int 0), (0, .ref (b 0)), (1, .int p1)]) hx hb dX12_count_144 hl (k := 1) rfl (by decide) (by decide) rfl (fun ls hl => ?_)
    refine lv_goto (tgt := 121) hx hb dX12_count_147 (by decide) ?_
    refine lv_iload_n hx hb dX12_count_121 rfl (lv_at hl 0 rfl) ?_
    refine lv_iconst (v := 4) hx hb dX12_count_122 (by decide) ?_
    refine lv_icmp_ge (tgt := 150) hx hb dX12_count_123 (by decide) (fun h => absurd h (by decide)) (fun _ => ?_)
    refine lv_iload_n hx hb dX12_count_126 rfl (lv_at hl 1 rfl) ?_
    refine lv_aload_n hx hb dX12_count_127 rfl (lv_at hl 2 rfl) ?_
    refine va_get (D := D) (ci := 12) (v := .ref (b 14)) (C := RX12) (T := TX12) (N := 34) hx hb hts i_X12 hown hK hP 0 rfl rfl 30 (by decide) (hts (.fieldLink RX12 61 "BellowsRowModel" "slotMany" "[I") (by decide +kernel)) (fun _ h9 => h9) rfl dX12_count_128 ?_
    refine lv_iload_n hx hb dX12_count_131 rfl (lv_at hl 0 rfl) ?_
    refine va_iald hx hb hK hP 2 1 rfl rfl (vp_in_iff.mpr (by decide)) dX12_count_132 ?_
    refine W.eq (g2 := F0 m 133 ls [.int (-1), .int 0]) rfl ?_
    refine lv_iconst (v := (-1)) hx hb dX12_count_133 (by decide) ?_
    refine lv_icmp_ne (tgt := 141) hx hb dX12_count_134 (by decide) (fun h => absurd (by decide) h) (fun _ => ?_)
    refine lv_iconst (v := 0) hx hb dX12_count_137 (by decide) ?_
    refine lv_goto (tgt := 142) hx hb dX12_count_138 (by decide) ?_
    refine lv_iadd hx hb dX12_count_142 ?_
    refine lv_topi (fun x14 ex14 => ?_)
    obtain rfl : x14 = 0 := ex14.trans (by decide)
    refine lv_istore_n (lv' := [(2, .int 0), (3, .int 3), (0, .ref (b 0)), (1, .int p1)]) hx hb dX12_count_143 rfl hl (by decide) rfl (fun ls hl => ?_)
    refine lv_iinc (v := 4) (lv' := [(3, .int 4), (2, .int 0), (0, .ref (b 0)), (1, .int p1)]) hx hb dX12_count_144 hl (k := 1) rfl (by decide) (by decide) rfl (fun ls hl => ?_)
    refine lv_goto (tgt := 121) hx hb dX12_count_147 (by decide) ?_
    refine lv_iload_n hx hb dX12_count_121 rfl (lv_at hl 0 rfl) ?_
    refine lv_iconst (v := 4) hx hb dX12_count_122 (by decide) ?_
    refine lv_icmp_ge (tgt := 150) hx hb dX12_count_123 (by decide) (fun _ => ?_) (fun h => absurd (by decide) h)
    refine lv_iload_n hx hb dX12_count_150 rfl (lv_at hl 1 rfl) ?_
    exact W.iret (v := 0) hx hb hr (fun t ht hW => ⟨0, rfl, Or.inl ⟨by (try simp only [i_lt, i_le, i_eq, Int32.toInt_toInt64, Int32.reduceToInt, Int64.reduceToInt] at k10 ⊢); omega, rfl⟩, ht⟩) (fun q h => by cases h) dX12_count_151
  have zk1 : ¬ p1.toInt = 0 := fun z => k1 (Int32.toInt_inj.mp (z.trans (by decide)))
  have zk2 : ¬ p1.toInt = 1 := fun z => k2 (Int32.toInt_inj.mp (z.trans (by decide)))
  have zk3 : ¬ p1.toInt = 2 := fun z => k3 (Int32.toInt_inj.mp (z.trans (by decide)))
  have zk4 : ¬ p1.toInt = 3 := fun z => k4 (Int32.toInt_inj.mp (z.trans (by decide)))
  have zk5 : ¬ p1.toInt = 4 := fun z => k5 (Int32.toInt_inj.mp (z.trans (by decide)))
  have zk6 : ¬ p1.toInt = 5 := fun z => k6 (Int32.toInt_inj.mp (z.trans (by decide)))
  have zk7 : ¬ p1.toInt = 6 := fun z => k7 (Int32.toInt_inj.mp (z.trans (by decide)))
  have zk8 : ¬ p1.toInt = 7 := fun z => k8 (Int32.toInt_inj.mp (z.trans (by decide)))
  have zk9 : ¬ p1.toInt = 8 := fun z => k9 (Int32.toInt_inj.mp (z.trans (by decide)))
  have zk10 : ¬ p1.toInt = 9 := fun z => k10 (Int32.toInt_inj.mp (z.trans (by decide)))
  refine lv_tableOut (tgt := 152) hx hb dX12_count_3 (by omega) (by decide) ?_
  refine lv_iconst (v := (-1)) hx hb dX12_count_152 (by decide) ?_
  exact W.iret (v := (-1)) hx hb hr (fun t ht hW => ⟨(-1), rfl, Or.inr ⟨by (try simp only [i_lt, i_le, i_eq, Int32.toInt_toInt64, Int32.reduceToInt, Int64.reduceToInt] at k1 k2 k3 k4 k5 k6 k7 k8 k9 k10 ⊢); omega, rfl⟩, ht⟩) (fun q h => by cases h) dX12_count_153
set_option maxHeartbeats 4000000 in
set_option maxRecDepth 100000 in
theorem c_X12_judge (l : Launch) (D : va_G) (k : Nat → ClassId) (b : Nat → Nat) (p1 : Int32) : Met l yX12_judge wsX12_judge ({ frames := 2, cells := 0, slots := 0, locals := 45 }) (PreR D k [m0 k b, m14 k b] [.ref (b 0), .int p1]) (vp_Si (fun r => ((0 ≤ p1.toInt ∧ p1.toInt ≤ 3) ∧ r = (-6)) ∨ (¬ (0 ≤ p1.toInt ∧ p1.toInt ≤ 3) ∧ r = (-2)))) 0 0 (fun _ => False) := by
  refine Met.ofW (cc := cX12_judge) (maxL := 3) (ret := (some .int)) (by decide) rfl ?_
  intro p e s m args below meth c s₁ B hml hv
  obtain ⟨rfl, hP, hK⟩ := hv
  have hx := B.exec
  have hb := B.bytes
  have hr := B.returns
  have hts := atoms_spec (ws := wsX12_judge) B.pre
  have hown : s.vm.findClass RX12 = some m.cls := findClass_of_methodNamed B.named
  have hlocks := B.notSynchronized
  have i_X12 : ∀ w ∈ wsX120, w ∈ wsX12_judge := by decide +kernel
  have hl := lv_entry ([.ref (b 0), .int p1]) (n := 3) (Nat.le_of_ble_eq_true rfl)
  rw [lg_entry_eq]
  generalize (lg_sl ([.ref (b 0), .int p1]) ++ List.replicate (3 - (lg_sl ([.ref (b 0), .int p1])).length) Slot.unset).toArray = ls at hl ⊢
  have hl : lv_has ls 3 [(0, .ref (b 0)), (1, .int p1)] := hl
  refine lv_iload_n hx hb dX12_judge_0 rfl (lv_at hl 1 rfl) ?_
  refine psi (As := [.int p1]) (rest := []) ⟨hx, hb, hml, hown, hts⟩ (c_X12_isSlot l D k p1) (va_cwS 1 hts gX12_judge_X12_isSlot rfl rfl rfl (by decide +kernel) ⟨Nat.le_of_ble_eq_true rfl, Nat.le_of_ble_eq_true rfl⟩) hK rfl hl.1 rfl (Nat.le_of_ble_eq_true rfl) dX12_judge_1 ⟨Nat.le_of_ble_eq_true rfl, Nat.le_of_ble_eq_true rfl⟩ (fun r1 hr1 => ?_)
  rcases hr1 with ⟨g2, rfl⟩ | ⟨g2, rfl⟩
  · refine lv_if_ne (tgt := 10) hx hb dX12_judge_4 (by decide) (fun _ => ?_) (fun h => absurd h (by decide))
    refine lv_aload_n hx hb dX12_judge_10 rfl (lv_at hl 0 rfl) ?_
    refine va_get (D := D) (ci := 12) (v := .ref (b 14)) (C := RX12) (T := TX12) (N := 34) hx hb hts i_X12 hown hK hP 0 rfl rfl 30 (by decide) (hts (.fieldLink RX12 61 "BellowsRowModel" "slotMany" "[I") (by decide +kernel)) (fun _ h9 => h9) rfl dX12_judge_11 ?_
    refine lv_iload_n hx hb dX12_judge_14 rfl (lv_at hl 1 rfl) ?_
    refine va_iald hx hb hK hP 1 1 rfl rfl (vp_in_iff.mpr (by (try simp only [i_lt, i_le, i_eq, Int32.toInt_toInt64, Int32.reduceToInt, Int64.reduceToInt] at g2 ⊢); omega)) dX12_judge_15 ?_
    refine lv_topi (fun x3 ex3 => ?_)
    obtain rfl : x3 = (-1) := ex3.trans (sm0_at (by (try simp only [i_lt, i_le, i_eq, Int32.toInt_toInt64, Int32.reduceToInt, Int64.reduceToInt] at g2 ⊢); omega))
    refine lv_iconst (v := (-1)) hx hb dX12_judge_16 (by decide) ?_
    refine lv_icmp_ne (tgt := 23) hx hb dX12_judge_17 (by decide) (fun h => absurd (by decide) h) (fun _ => ?_)
    refine lv_bipush (v := (-6)) hx hb dX12_judge_20 (by decide) ?_
    exact W.iret (v := (-6)) hx hb hr (fun t ht hW => ⟨(-6), rfl, Or.inl ⟨by (try simp only [i_lt, i_le, i_eq, Int32.toInt_toInt64, Int32.reduceToInt, Int64.reduceToInt] at g2 ⊢); omega, rfl⟩, ht⟩) (fun q h => by cases h) dX12_judge_22
  · refine lv_if_ne (tgt := 10) hx hb dX12_judge_4 (by decide) (fun h => absurd (by decide) h) (fun _ => ?_)
    refine lv_bipush (v := (-2)) hx hb dX12_judge_7 (by decide) ?_
    exact W.iret (v := (-2)) hx hb hr (fun t ht hW => ⟨(-2), rfl, Or.inr ⟨by (try simp only [i_lt, i_le, i_eq, Int32.toInt_toInt64, Int32.reduceToInt, Int64.reduceToInt] at g2 ⊢); omega, rfl⟩, ht⟩) (fun q h => by cases h) dX12_judge_9
set_option maxHeartbeats 4000000 in
set_option maxRecDepth 100000 in
theorem c_X12_other (l : Launch) (D : va_G) (k : Nat → ClassId) (b : Nat → Nat) (p1 : Int32) (p2 : Int32) : Met l yX12_other wsX12_other ({ frames := 2, cells := 0, slots := 0, locals := 46 }) (PreR D k [m0 k b, m1 k b] [.ref (b 0), .int p1, .int p2]) (vp_Si (fun r => r = (-2))) 0 0 (fun _ => False) := by
  refine Met.ofW (cc := cX12_other) (maxL := 4) (ret := (some .int)) (by decide) rfl ?_
  intro p e s m args below meth c s₁ B hml hv
  obtain ⟨rfl, hP, hK⟩ := hv
  have hx := B.exec
  have hb := B.bytes
  have hr := B.returns
  have hts := atoms_spec (ws := wsX12_other) B.pre
  have hown : s.vm.findClass RX12 = some m.cls := findClass_of_methodNamed B.named
  have hlocks := B.notSynchronized
  have hl := lv_entry ([.ref (b 0), .int p1, .int p2]) (n := 4) (Nat.le_of_ble_eq_true rfl)
  rw [lg_entry_eq]
  generalize (lg_sl ([.ref (b 0), .int p1, .int p2]) ++ List.replicate (4 - (lg_sl ([.ref (b 0), .int p1, .int p2])).length) Slot.unset).toArray = ls at hl ⊢
  have hl : lv_has ls 4 [(0, .ref (b 0)), (1, .int p1), (2, .int p2)] := hl
  refine lv_iload_n hx hb dX12_other_0 rfl (lv_at hl 1 rfl) ?_
  refine psi (As := [.int p1]) (rest := []) ⟨hx, hb, hml, hown, hts⟩ (c_X12_isSlot l D k p1) (va_cwS 1 hts gX12_other_X12_isSlot rfl rfl rfl (by decide +kernel) ⟨Nat.le_of_ble_eq_true rfl, Nat.le_of_ble_eq_true rfl⟩) hK rfl hl.1 rfl (Nat.le_of_ble_eq_true rfl) dX12_other_1 ⟨Nat.le_of_ble_eq_true rfl, Nat.le_of_ble_eq_true rfl⟩ (fun r1 hr1 => ?_)
  rcases hr1 with ⟨g2, rfl⟩ | ⟨g2, rfl⟩
  · refine lv_if_eq (tgt := 15) hx hb dX12_other_4 (by decide) (fun h => absurd h (by decide)) (fun _ => ?_)
    refine lv_aload_n hx hb dX12_other_7 rfl (lv_at hl 0 rfl) ?_
    refine lv_iload_n hx hb dX12_other_8 rfl (lv_at hl 2 rfl) ?_
    refine pvi (C := RX12) (As := [.int p2]) (rest := []) (wc := [m0 k b, m1 k b]) ⟨hx, hb, hml, hown, hts⟩ (c_X12_isPipe l D k b p2) (cwV 1 hts gX12_other_X12_isPipe rfl rfl rfl (by decide +kernel) ⟨Nat.le_of_ble_eq_true rfl, Nat.le_of_ble_eq_true rfl⟩) hP hK [0, 1] rfl 0 rfl rfl rfl rfl hl.1 rfl (Nat.le_of_ble_eq_true rfl) dX12_other_9 ⟨Nat.le_of_ble_eq_true rfl, Nat.le_of_ble_eq_true rfl⟩ (fun r3 hr3 => ?_)
    obtain rfl := hr3
    refine lv_if_ne (tgt := 18) hx hb dX12_other_12 (by decide) (fun h => absurd (by decide) h) (fun _ => ?_)
    refine lv_bipush (v := (-2)) hx hb dX12_other_15 (by decide) ?_
    exact W.iret (v := (-2)) hx hb hr (fun t ht hW => ⟨(-2), rfl, rfl, ht⟩) (fun q h => by cases h) dX12_other_17
  · refine lv_if_eq (tgt := 15) hx hb dX12_other_4 (by decide) (fun _ => ?_) (fun h => absurd (by decide) h)
    refine lv_bipush (v := (-2)) hx hb dX12_other_15 (by decide) ?_
    exact W.iret (v := (-2)) hx hb hr (fun t ht hW => ⟨(-2), rfl, rfl, ht⟩) (fun q h => by cases h) dX12_other_17
set_option maxHeartbeats 4000000 in
set_option maxRecDepth 100000 in
theorem c_X12_write (l : Launch) (D : va_G) (k : Nat → ClassId) (b : Nat → Nat) (p1 p2 : Int32) (p3 : Int64) : Met l yX12_write wsX12_write ({ frames := 2, cells := 0, slots := 0, locals := 45 }) (PreR D k [m0 k b, m14 k b] [.ref (b 0), .int p1, .int p2, .long p3]) (vp_Si (fun r => ((0 ≤ p1.toInt ∧ p1.toInt ≤ 3) ∧ r = (-6)) ∨ (¬ (0 ≤ p1.toInt ∧ p1.toInt ≤ 3) ∧ r = (-2)))) 0 0 (fun _ => False) := by
  refine Met.ofW (cc := cX12_write) (maxL := 5) (ret := (some .int)) (by decide) rfl ?_
  intro p e s m args below meth c s₁ B hml hv
  obtain ⟨rfl, hP, hK⟩ := hv
  have hx := B.exec
  have hb := B.bytes
  have hr := B.returns
  have hts := atoms_spec (ws := wsX12_write) B.pre
  have hown : s.vm.findClass RX12 = some m.cls := findClass_of_methodNamed B.named
  have hlocks := B.notSynchronized
  have i_X12 : ∀ w ∈ wsX120, w ∈ wsX12_write := by decide +kernel
  have hl := lv_entry ([.ref (b 0), .int p1, .int p2, .long p3]) (n := 5) (Nat.le_of_ble_eq_true rfl)
  rw [lg_entry_eq]
  generalize (lg_sl ([.ref (b 0), .int p1, .int p2, .long p3]) ++ List.replicate (5 - (lg_sl ([.ref (b 0), .int p1, .int p2, .long p3])).length) Slot.unset).toArray = ls at hl ⊢
  have hl : lv_has ls 5 [(0, .ref (b 0)), (1, .int p1), (2, .int p2), (3, .long p3)] := hl
  refine lv_iload_n hx hb dX12_write_0 rfl (lv_at hl 1 rfl) ?_
  refine psi (As := [.int p1]) (rest := []) ⟨hx, hb, hml, hown, hts⟩ (c_X12_isSlot l D k p1) (va_cwS 1 hts gX12_write_X12_isSlot rfl rfl rfl (by decide +kernel) ⟨Nat.le_of_ble_eq_true rfl, Nat.le_of_ble_eq_true rfl⟩) hK rfl hl.1 rfl (Nat.le_of_ble_eq_true rfl) dX12_write_1 ⟨Nat.le_of_ble_eq_true rfl, Nat.le_of_ble_eq_true rfl⟩ (fun r1 hr1 => ?_)
  rcases hr1 with ⟨g2, rfl⟩ | ⟨g2, rfl⟩
  · refine lv_if_ne (tgt := 10) hx hb dX12_write_4 (by decide) (fun _ => ?_) (fun h => absurd h (by decide))
    refine lv_aload_n hx hb dX12_write_10 rfl (lv_at hl 0 rfl) ?_
    refine va_get (D := D) (ci := 12) (v := .ref (b 14)) (C := RX12) (T := TX12) (N := 34) hx hb hts i_X12 hown hK hP 0 rfl rfl 30 (by decide) (hts (.fieldLink RX12 61 "BellowsRowModel" "slotMany" "[I") (by decide +kernel)) (fun _ h9 => h9) rfl dX12_write_11 ?_
    refine lv_iload_n hx hb dX12_write_14 rfl (lv_at hl 1 rfl) ?_
    refine va_iald hx hb hK hP 1 1 rfl rfl (vp_in_iff.mpr (by (try simp only [i_lt, i_le, i_eq, Int32.toInt_toInt64, Int32.reduceToInt, Int64.reduceToInt] at g2 ⊢); omega)) dX12_write_15 ?_
    refine lv_topi (fun x3 ex3 => ?_)
    obtain rfl : x3 = (-1) := ex3.trans (sm0_at (by (try simp only [i_lt, i_le, i_eq, Int32.toInt_toInt64, Int32.reduceToInt, Int64.reduceToInt] at g2 ⊢); omega))
    refine lv_iconst (v := (-1)) hx hb dX12_write_16 (by decide) ?_
    refine lv_icmp_ne (tgt := 23) hx hb dX12_write_17 (by decide) (fun h => absurd (by decide) h) (fun _ => ?_)
    refine lv_bipush (v := (-6)) hx hb dX12_write_20 (by decide) ?_
    exact W.iret (v := (-6)) hx hb hr (fun t ht hW => ⟨(-6), rfl, Or.inl ⟨by (try simp only [i_lt, i_le, i_eq, Int32.toInt_toInt64, Int32.reduceToInt, Int64.reduceToInt] at g2 ⊢); omega, rfl⟩, ht⟩) (fun q h => by cases h) dX12_write_22
  · refine lv_if_ne (tgt := 10) hx hb dX12_write_4 (by decide) (fun h => absurd (by decide) h) (fun _ => ?_)
    refine lv_bipush (v := (-2)) hx hb dX12_write_7 (by decide) ?_
    exact W.iret (v := (-2)) hx hb hr (fun t ht hW => ⟨(-2), rfl, Or.inr ⟨by (try simp only [i_lt, i_le, i_eq, Int32.toInt_toInt64, Int32.reduceToInt, Int64.reduceToInt] at g2 ⊢); omega, rfl⟩, ht⟩) (fun q h => by cases h) dX12_write_9
set_option maxHeartbeats 4000000 in
set_option maxRecDepth 100000 in
theorem c_X12_paste (l : Launch) (D : va_G) (k : Nat → ClassId) (b : Nat → Nat) (p1 : Int32) (p2 : Int32) (p3 : Int32) (p4 : Int32) (p5 : Int32) : Met l yX12_paste wsX12_paste ({ frames := 2, cells := 0, slots := 0, locals := 45 }) (PreR D k [m0 k b, m14 k b] [.ref (b 0), .int p1, .int p2, .int p3, .int p4, .int p5]) (vp_Si (fun r => ((0 ≤ p1.toInt ∧ p1.toInt ≤ 3 ∧ 0 ≤ p3.toInt ∧ p3.toInt ≤ 3) ∧ r = (-6)) ∨ (¬ (0 ≤ p1.toInt ∧ p1.toInt ≤ 3 ∧ 0 ≤ p3.toInt ∧ p3.toInt ≤ 3) ∧ r = (-2)))) 0 0 (fun _ => False) := by
  refine Met.ofW (cc := cX12_paste) (maxL := 7) (ret := (some .int)) (by decide) rfl ?_
  intro p e s m args below meth c s₁ B hml hv
  obtain ⟨rfl, hP, hK⟩ := hv
  have hx := B.exec
  have hb := B.bytes
  have hr := B.returns
  have hts := atoms_spec (ws := wsX12_paste) B.pre
  have hown : s.vm.findClass RX12 = some m.cls := findClass_of_methodNamed B.named
  have hlocks := B.notSynchronized
  have i_X12 : ∀ w ∈ wsX120, w ∈ wsX12_paste := by decide +kernel
  have hl := lv_entry ([.ref (b 0), .int p1, .int p2, .int p3, .int p4, .int p5]) (n := 7) (Nat.le_of_ble_eq_true rfl)
  rw [lg_entry_eq]
  generalize (lg_sl ([.ref (b 0), .int p1, .int p2, .int p3, .int p4, .int p5]) ++ List.replicate (7 - (lg_sl ([.ref (b 0), .int p1, .int p2, .int p3, .int p4, .int p5])).length) Slot.unset).toArray = ls at hl ⊢
  have hl : lv_has ls 7 [(0, .ref (b 0)), (1, .int p1), (2, .int p2), (3, .int p3), (4, .int p4), (5, .int p5)] := hl
  refine lv_iload_n hx hb dX12_paste_0 rfl (lv_at hl 1 rfl) ?_
  refine psi (As := [.int p1]) (rest := []) ⟨hx, hb, hml, hown, hts⟩ (c_X12_isSlot l D k p1) (va_cwS 1 hts gX12_paste_X12_isSlot rfl rfl rfl (by decide +kernel) ⟨Nat.le_of_ble_eq_true rfl, Nat.le_of_ble_eq_true rfl⟩) hK rfl hl.1 rfl (Nat.le_of_ble_eq_true rfl) dX12_paste_1 ⟨Nat.le_of_ble_eq_true rfl, Nat.le_of_ble_eq_true rfl⟩ (fun r1 hr1 => ?_)
  rcases hr1 with ⟨g2, rfl⟩ | ⟨g2, rfl⟩
  · refine lv_if_eq (tgt := 14) hx hb dX12_paste_4 (by decide) (fun h => absurd h (by decide)) (fun _ => ?_)
    refine lv_iload_n hx hb dX12_paste_7 rfl (lv_at hl 3 rfl) ?_
    refine psi (As := [.int p3]) (rest := []) ⟨hx, hb, hml, hown, hts⟩ (c_X12_isSlot l D k p3) (va_cwS 1 hts gX12_paste_X12_isSlot rfl rfl rfl (by decide +kernel) ⟨Nat.le_of_ble_eq_true rfl, Nat.le_of_ble_eq_true rfl⟩) hK rfl hl.1 rfl (Nat.le_of_ble_eq_true rfl) dX12_paste_8 ⟨Nat.le_of_ble_eq_true rfl, Nat.le_of_ble_eq_true rfl⟩ (fun r3 hr3 => ?_)
    rcases hr3 with ⟨g4, rfl⟩ | ⟨g4, rfl⟩
    · refine lv_if_ne (tgt := 17) hx hb dX12_paste_11 (by decide) (fun _ => ?_) (fun h => absurd h (by decide))
      refine lv_aload_n hx hb dX12_paste_17 rfl (lv_at hl 0 rfl) ?_
      refine va_get (D := D) (ci := 12) (v := .ref (b 14)) (C := RX12) (T := TX12) (N := 34) hx hb hts i_X12 hown hK hP 0 rfl rfl 30 (by decide) (hts (.fieldLink RX12 61 "BellowsRowModel" "slotMany" "[I") (by decide +kernel)) (fun _ h9 => h9) rfl dX12_paste_18 ?_
      refine lv_iload_n hx hb dX12_paste_21 rfl (lv_at hl 1 rfl) ?_
      refine va_iald hx hb hK hP 1 1 rfl rfl (vp_in_iff.mpr (by (try simp only [i_lt, i_le, i_eq, Int32.toInt_toInt64, Int32.reduceToInt, Int64.reduceToInt] at g2 g4 ⊢); omega)) dX12_paste_22 ?_
      refine lv_topi (fun x5 ex5 => ?_)
      obtain rfl : x5 = (-1) := ex5.trans (sm0_at (by (try simp only [i_lt, i_le, i_eq, Int32.toInt_toInt64, Int32.reduceToInt, Int64.reduceToInt] at g2 g4 ⊢); omega))
      refine lv_iconst (v := (-1)) hx hb dX12_paste_23 (by decide) ?_
      refine lv_icmp_eq (tgt := 37) hx hb dX12_paste_24 (by decide) (fun _ => ?_) (fun h => absurd (by decide) h)
      refine lv_bipush (v := (-6)) hx hb dX12_paste_37 (by decide) ?_
      exact W.iret (v := (-6)) hx hb hr (fun t ht hW => ⟨(-6), rfl, Or.inl ⟨by (try simp only [i_lt, i_le, i_eq, Int32.toInt_toInt64, Int32.reduceToInt, Int64.reduceToInt] at g2 g4 ⊢); omega, rfl⟩, ht⟩) (fun q h => by cases h) dX12_paste_39
    · refine lv_if_ne (tgt := 17) hx hb dX12_paste_11 (by decide) (fun h => absurd (by decide) h) (fun _ => ?_)
      refine lv_bipush (v := (-2)) hx hb dX12_paste_14 (by decide) ?_
      exact W.iret (v := (-2)) hx hb hr (fun t ht hW => ⟨(-2), rfl, Or.inr ⟨by (try simp only [i_lt, i_le, i_eq, Int32.toInt_toInt64, Int32.reduceToInt, Int64.reduceToInt] at g2 g4 ⊢); omega, rfl⟩, ht⟩) (fun q h => by cases h) dX12_paste_16
  · refine lv_if_eq (tgt := 14) hx hb dX12_paste_4 (by decide) (fun _ => ?_) (fun h => absurd (by decide) h)
    refine lv_bipush (v := (-2)) hx hb dX12_paste_14 (by decide) ?_
    exact W.iret (v := (-2)) hx hb hr (fun t ht hW => ⟨(-2), rfl, Or.inr ⟨by (try simp only [i_lt, i_le, i_eq, Int32.toInt_toInt64, Int32.reduceToInt, Int64.reduceToInt] at g2 ⊢); omega, rfl⟩, ht⟩) (fun q h => by cases h) dX12_paste_16
set_option maxHeartbeats 4000000 in
set_option maxRecDepth 100000 in
theorem c_X12_back (l : Launch) (D : va_G) (k : Nat → ClassId) (b : Nat → Nat) (p1 : Int32) : Met l yX12_back wsX12_back ({ frames := 1, cells := 0, slots := 0, locals := 25 }) (PreR D k [m0 k b, m3 k b] [.ref (b 0), .int p1]) (vp_Si (fun r => ((0 ≤ p1.toInt ∧ p1.toInt ≤ 2) ∧ r = (-6)) ∨ (¬ (0 ≤ p1.toInt ∧ p1.toInt ≤ 2) ∧ r = (-2)))) 0 0 (fun _ => False) := by
  refine Met.ofW (cc := cX12_back) (maxL := 3) (ret := (some .int)) (by decide) rfl ?_
  intro p e s m args below meth c s₁ B hml hv
  obtain ⟨rfl, hP, hK⟩ := hv
  have hx := B.exec
  have hb := B.bytes
  have hr := B.returns
  have hts := atoms_spec (ws := wsX12_back) B.pre
  have hown : s.vm.findClass RX12 = some m.cls := findClass_of_methodNamed B.named
  have hlocks := B.notSynchronized
  have i_X12 : ∀ w ∈ wsX120, w ∈ wsX12_back := by decide +kernel
  have hl := lv_entry ([.ref (b 0), .int p1]) (n := 3) (Nat.le_of_ble_eq_true rfl)
  rw [lg_entry_eq]
  generalize (lg_sl ([.ref (b 0), .int p1]) ++ List.replicate (3 - (lg_sl ([.ref (b 0), .int p1])).length) Slot.unset).toArray = ls at hl ⊢
  have hl : lv_has ls 3 [(0, .ref (b 0)), (1, .int p1)] := hl
  refine lv_iload_n hx hb dX12_back_0 rfl (lv_at hl 1 rfl) ?_
  refine lv_i2l hx hb dX12_back_1 rfl ?_
  refine lv_lconst (v := 0) hx hb dX12_back_2 (by decide) ?_
  refine lv_ldc2 (own := RX12) (v := 2) hx hb hown (hts (.constantLong RX12 74 (2)) (by decide +kernel)) dX12_back_3 ?_
  refine psi (As := [.long p1.toInt64, .long 0, .long 2]) (rest := []) ⟨hx, hb, hml, hown, hts⟩ (c_X12_in l D k p1.toInt64 (0 : Int64) (2 : Int64)) (va_cwS 3 hts gX12_back_X12_in rfl rfl rfl (by decide +kernel) ⟨Nat.le_of_ble_eq_true rfl, Nat.le_of_ble_eq_true rfl⟩) hK rfl hl.1 rfl (Nat.le_of_ble_eq_true rfl) dX12_back_6 ⟨Nat.le_of_ble_eq_true rfl, Nat.le_of_ble_eq_true rfl⟩ (fun r1 hr1 => ?_)
  rcases hr1 with ⟨g2, rfl⟩ | ⟨g2, rfl⟩
  · refine lv_if_ne (tgt := 15) hx hb dX12_back_9 (by decide) (fun _ => ?_) (fun h => absurd h (by decide))
    refine lv_aload_n hx hb dX12_back_15 rfl (lv_at hl 0 rfl) ?_
    refine va_get (D := D) (ci := 12) (v := .ref (b 3)) (C := RX12) (T := TX12) (N := 34) hx hb hts i_X12 hown hK hP 0 rfl rfl 3 (by decide) (hts (.fieldLink RX12 20 "BellowsRowModel" "hasImage" "[Z") (by decide +kernel)) (fun _ h9 => h9) rfl dX12_back_16 ?_
    refine lv_iload_n hx hb dX12_back_19 rfl (lv_at hl 1 rfl) ?_
    refine va_zald hx hb hK hP 1 3 rfl rfl (vp_in_iff.mpr (by (try simp only [i_lt, i_le, i_eq, Int32.toInt_toInt64, Int32.reduceToInt, Int64.reduceToInt] at g2 ⊢); omega)) dX12_back_20 ?_
    refine W.eq (g2 := F0 m 21 ls [.int 0]) rfl ?_
    refine lv_if_ne (tgt := 27) hx hb dX12_back_21 (by decide) (fun h => absurd (by decide) h) (fun _ => ?_)
    refine lv_bipush (v := (-6)) hx hb dX12_back_24 (by decide) ?_
    exact W.iret (v := (-6)) hx hb hr (fun t ht hW => ⟨(-6), rfl, Or.inl ⟨by (try simp only [i_lt, i_le, i_eq, Int32.toInt_toInt64, Int32.reduceToInt, Int64.reduceToInt] at g2 ⊢); omega, rfl⟩, ht⟩) (fun q h => by cases h) dX12_back_26
  · refine lv_if_ne (tgt := 15) hx hb dX12_back_9 (by decide) (fun h => absurd (by decide) h) (fun _ => ?_)
    refine lv_bipush (v := (-2)) hx hb dX12_back_12 (by decide) ?_
    exact W.iret (v := (-2)) hx hb hr (fun t ht hW => ⟨(-2), rfl, Or.inr ⟨by (try simp only [i_lt, i_le, i_eq, Int32.toInt_toInt64, Int32.reduceToInt, Int64.reduceToInt] at g2 ⊢); omega, rfl⟩, ht⟩) (fun q h => by cases h) dX12_back_14
