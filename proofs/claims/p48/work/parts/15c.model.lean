set_option maxHeartbeats 4000000 in
set_option maxRecDepth 100000 in
theorem t_X12_in (l : Launch) (D : va_G) (k : Nat → ClassId) (p1 : Int64) (p2 : Int64) (p3 : Int64) : Met l yX12_in wsX12_in ({ frames := 0, cells := 0, slots := 0, locals := 0 }) (PreR D k [] [.long p1, .long p2, .long p3]) (vp_Si (fun r => (r.toInt = 0 ∧ (p1.toInt < p2.toInt ∨ p3.toInt < p1.toInt)) ∨ (r.toInt = 1 ∧ p2.toInt ≤ p1.toInt ∧ p1.toInt ≤ p3.toInt))) 0 0 (fun _ => False) := by
  refine Met.ofW (cc := cX12_in) (maxL := 6) (ret := (some .boolean)) (by decide) rfl ?_
  intro p e s m args below meth c s₁ B hml hv
  obtain ⟨rfl, hP, hK⟩ := hv
  have hx := B.exec
  have hb := B.bytes
  have hr := B.returns
  have hts := atoms_spec (ws := wsX12_in) B.pre
  have hown : s.vm.findClass RX12 = some m.cls := findClass_of_methodNamed B.named
  have hlocks := B.notSynchronized
  have hl := lv_entry ([.long p1, .long p2, .long p3]) (n := 6) (Nat.le_of_ble_eq_true rfl)
  rw [lg_entry_eq]
  generalize (lg_sl ([.long p1, .long p2, .long p3]) ++ List.replicate (6 - (lg_sl ([.long p1, .long p2, .long p3])).length) Slot.unset).toArray = ls at hl ⊢
  have hl : lv_has ls 6 [(0, .long p1), (2, .long p2), (4, .long p3)] := hl
  refine lv_lload_n hx hb dX12_in_0 rfl (lv_at hl 0 rfl) ?_
  refine lv_lload_n hx hb dX12_in_1 rfl (lv_at hl 1 rfl) ?_
  refine W.lcmp hx hb dX12_in_2 ?_
  refine lv_if_lt (tgt := 17) hx hb dX12_in_3 (by decide) (fun c1 => ?_) (fun c1 => ?_)
  · simp only [lg_cmp_lt, lg_cmp_gt, lg_cmp_le, lg_cmp_ge, lg_cmp_eq, Int64.lt_iff_toInt_lt, Int64.le_iff_toInt_le] at c1
    refine lv_iconst (v := 0) hx hb dX12_in_17 (by decide) ?_
    exact W.zret (v := 0) hx hb hr rfl (fun t ht hW => ⟨0, rfl, (show ((0 : Int) = 0 ∧ (p1.toInt < p2.toInt ∨ p3.toInt < p1.toInt)) ∨ ((0 : Int) = 1 ∧ p2.toInt ≤ p1.toInt ∧ p1.toInt ≤ p3.toInt) from by (try simp only [i_lt, i_le, i_eq, Int32.toInt_toInt64, Int32.reduceToInt, Int64.reduceToInt, true_and, and_true, false_and, and_false, false_or, or_false, true_or, or_true, not_true_eq_false, not_false_eq_true, ne_eq, forall_const, true_implies, false_implies, implies_true] at c1 ⊢) <;> omega), ht⟩) (fun q h => by cases h) dX12_in_18
  · simp only [lg_cmp_lt, lg_cmp_gt, lg_cmp_le, lg_cmp_ge, lg_cmp_eq, Int64.lt_iff_toInt_lt, Int64.le_iff_toInt_le] at c1
    refine lv_lload_n hx hb dX12_in_6 rfl (lv_at hl 0 rfl) ?_
    refine lv_lload hx hb dX12_in_7 (lv_at hl 2 rfl) ?_
    refine W.lcmp hx hb dX12_in_9 ?_
    refine lv_if_gt (tgt := 17) hx hb dX12_in_10 (by decide) (fun c2 => ?_) (fun c2 => ?_)
    · simp only [lg_cmp_lt, lg_cmp_gt, lg_cmp_le, lg_cmp_ge, lg_cmp_eq, Int64.lt_iff_toInt_lt, Int64.le_iff_toInt_le] at c2
      refine lv_iconst (v := 0) hx hb dX12_in_17 (by decide) ?_
      exact W.zret (v := 0) hx hb hr rfl (fun t ht hW => ⟨0, rfl, (show ((0 : Int) = 0 ∧ (p1.toInt < p2.toInt ∨ p3.toInt < p1.toInt)) ∨ ((0 : Int) = 1 ∧ p2.toInt ≤ p1.toInt ∧ p1.toInt ≤ p3.toInt) from by (try simp only [i_lt, i_le, i_eq, Int32.toInt_toInt64, Int32.reduceToInt, Int64.reduceToInt, true_and, and_true, false_and, and_false, false_or, or_false, true_or, or_true, not_true_eq_false, not_false_eq_true, ne_eq, forall_const, true_implies, false_implies, implies_true] at c1 c2 ⊢) <;> omega), ht⟩) (fun q h => by cases h) dX12_in_18
    · simp only [lg_cmp_lt, lg_cmp_gt, lg_cmp_le, lg_cmp_ge, lg_cmp_eq, Int64.lt_iff_toInt_lt, Int64.le_iff_toInt_le] at c2
      refine lv_iconst (v := 1) hx hb dX12_in_13 (by decide) ?_
      refine lv_goto (tgt := 18) hx hb dX12_in_14 (by decide) ?_
      exact W.zret (v := 1) hx hb hr rfl (fun t ht hW => ⟨1, rfl, (show ((1 : Int) = 0 ∧ (p1.toInt < p2.toInt ∨ p3.toInt < p1.toInt)) ∨ ((1 : Int) = 1 ∧ p2.toInt ≤ p1.toInt ∧ p1.toInt ≤ p3.toInt) from by (try simp only [i_lt, i_le, i_eq, Int32.toInt_toInt64, Int32.reduceToInt, Int64.reduceToInt, true_and, and_true, false_and, and_false, false_or, or_false, true_or, or_true, not_true_eq_false, not_false_eq_true, ne_eq, forall_const, true_implies, false_implies, implies_true] at c1 c2 ⊢) <;> omega), ht⟩) (fun q h => by cases h) dX12_in_18
set_option maxHeartbeats 4000000 in
set_option maxRecDepth 100000 in
theorem t_X12_isHour (l : Launch) (D : va_G) (k : Nat → ClassId) (u : PSt) (hu : WT u) (h0 : Nat) (m_h0 : h0 ∈ u.1) (k_h0 : u.2.1 h0 = 12) (p1 : Int32) : Met l yX12_isHour wsX12_isHour ({ frames := 1, cells := 0, slots := 0, locals := 25 }) (PreR D k (PW k u) [.ref h0, .int p1]) (vp_Si (fun r => r.toInt = 0 ∨ (r.toInt = 1 ∧ 0 ≤ p1.toInt ∧ p1.toInt ≤ 1999))) 0 0 (fun _ => False) := by
  refine Met.ofW (cc := cX12_isHour) (maxL := 2) (ret := (some .boolean)) (by decide) rfl ?_
  intro p e s m args below meth c s₁ B hml hv
  obtain ⟨rfl, hP, hK⟩ := hv
  have hx := B.exec
  have hb := B.bytes
  have hr := B.returns
  have hts := atoms_spec (ws := wsX12_isHour) B.pre
  have hown : s.vm.findClass RX12 = some m.cls := findClass_of_methodNamed B.named
  have hlocks := B.notSynchronized
  have i_X12 : ∀ w ∈ wsX120, w ∈ wsX12_isHour := by decide +kernel
  obtain ⟨a1, q0_1, m0_a1, k0_a1⟩ := (hu h0 m_h0).1 1 50 (by rw [k_h0]; rfl)
  have m_a1 := m0_a1
  have k_a1 := k0_a1
  have hl := lv_entry ([.ref h0, .int p1]) (n := 2) (Nat.le_of_ble_eq_true rfl)
  rw [lg_entry_eq]
  generalize (lg_sl ([.ref h0, .int p1]) ++ List.replicate (2 - (lg_sl ([.ref h0, .int p1])).length) Slot.unset).toArray = ls at hl ⊢
  have hl : lv_has ls 2 [(0, .ref h0), (1, .int p1)] := hl
  refine lv_iload_n hx hb dX12_isHour_0 rfl (lv_at hl 1 rfl) ?_
  refine lv_i2l hx hb dX12_isHour_1 rfl ?_
  have b1 := Int32.toInt_lt p1
  have ab1 := Int32.le_toInt p1
  refine lv_topl (fun x2 ex2 => ?_)
  have tx2 : x2.toInt = p1.toInt := by rw [ex2]; exact Int32.toInt_toInt64 _
  refine lv_lconst (v := 0) hx hb dX12_isHour_2 (by decide) ?_
  refine lv_aload_n hx hb dX12_isHour_3 rfl (lv_at hl 0 rfl) ?_
  refine pget (ci := 12) (v := va_rf (u.2.2.2.2 h0 1)) (C := RX12) (T := TX12) (N := 34) hx hb hts i_X12 hown hK hP m_h0 (cF12 k_h0) rfl 1 (by decide) (hts (.fieldLink RX12 13 "BellowsRowModel" "world" "[I") (by decide +kernel)) (fun _ h9 => h9) rfl dX12_isHour_4 ?_
  refine W.eq (g2 := F0 m 7 ls [.ref a1, .long 0, .long x2]) (by rw [q0_1]; rfl) ?_
  refine lv_bipush (v := 6) hx hb dX12_isHour_7 (by decide) ?_
  refine palI hx hb hK hP m_a1 (cF50 k_a1) 1 rfl (vp_in_iff.mpr (by decide)) dX12_isHour_9 ?_
  refine lv_topi (fun x3 ex3 => ?_)
  have tx3 : x3.toInt = (u.2.2.1 a1 6).toInt := congrArg Int32.toInt ex3
  have g4 : 0 ≤ x3.toInt ∧ x3.toInt ≤ 2000 := by have g : okI (u.2.1 a1) (6) (u.2.2.1 a1 (6)) := (hu a1 m_a1).2.2.2 (6); rw [k_a1, ← (show x3 = u.2.2.1 a1 (6) from ex3)] at g; have g : okW (6) x3 := g; unfold okW at g; (try simp only [i_lt, i_le, i_eq, Int32.toInt_toInt64, Int32.reduceToInt, Int64.reduceToInt, true_and, and_true, false_and, and_false, false_or, or_false, true_or, or_true, not_true_eq_false, not_false_eq_true, ne_eq, forall_const, true_implies, false_implies, implies_true] at b1 ab1 tx2 tx3 g ⊢) <;> omega
  refine lv_iconst (v := 1) hx hb dX12_isHour_10 (by decide) ?_
  refine lv_isub hx hb dX12_isHour_11 ?_
  refine lv_topi (fun x5 ex5 => ?_)
  have tx5 : x5.toInt = x3.toInt - (1 : Int32).toInt := by rw [ex5]; exact i_sub (by (try simp only [i_lt, i_le, i_eq, Int32.toInt_toInt64, Int32.reduceToInt, Int64.reduceToInt, true_and, and_true, false_and, and_false, false_or, or_false, true_or, or_true, not_true_eq_false, not_false_eq_true, ne_eq, forall_const, true_implies, false_implies, implies_true] at b1 ab1 tx2 tx3 g4 ⊢) <;> omega) (by (try simp only [i_lt, i_le, i_eq, Int32.toInt_toInt64, Int32.reduceToInt, Int64.reduceToInt, true_and, and_true, false_and, and_false, false_or, or_false, true_or, or_true, not_true_eq_false, not_false_eq_true, ne_eq, forall_const, true_implies, false_implies, implies_true] at b1 ab1 tx2 tx3 g4 ⊢) <;> omega)
  refine lv_i2l hx hb dX12_isHour_12 rfl ?_
  refine lv_topl (fun x6 ex6 => ?_)
  have tx6 : x6.toInt = x5.toInt := by rw [ex6]; exact Int32.toInt_toInt64 _
  refine psi (As := [.long x2, .long 0, .long x6]) (rest := []) ⟨hx, hb, hml, hown, hts⟩ (t_X12_in l D k x2 0 x6) (va_cwS 3 hts gX12_isHour_X12_in rfl rfl rfl (by decide +kernel) ⟨Nat.le_of_ble_eq_true rfl, Nat.le_of_ble_eq_true rfl⟩) hK rfl hl.1 rfl (Nat.le_of_ble_eq_true rfl) dX12_isHour_13 ⟨Nat.le_of_ble_eq_true rfl, Nat.le_of_ble_eq_true rfl⟩ (fun r7 hr7 => ?_)
  exact W.zret (v := r7) hx hb hr (z_nar (by (try simp only [i_lt, i_le, i_eq, Int32.toInt_toInt64, Int32.reduceToInt, Int64.reduceToInt, true_and, and_true, false_and, and_false, false_or, or_false, true_or, or_true, not_true_eq_false, not_false_eq_true, ne_eq, forall_const, true_implies, false_implies, implies_true] at b1 ab1 tx2 tx3 g4 tx5 tx6 hr7 ⊢) <;> omega)) (fun t ht hW => ⟨r7, rfl, (show r7.toInt = 0 ∨ (r7.toInt = 1 ∧ 0 ≤ p1.toInt ∧ p1.toInt ≤ 1999) from by (try simp only [i_lt, i_le, i_eq, Int32.toInt_toInt64, Int32.reduceToInt, Int64.reduceToInt, true_and, and_true, false_and, and_false, false_or, or_false, true_or, or_true, not_true_eq_false, not_false_eq_true, ne_eq, forall_const, true_implies, false_implies, implies_true] at b1 ab1 tx2 tx3 g4 tx5 tx6 hr7 ⊢) <;> omega), ht⟩) (fun q h => by cases h) dX12_isHour_16
set_option maxHeartbeats 4000000 in
set_option maxRecDepth 100000 in
theorem t_X12_isPipe (l : Launch) (D : va_G) (k : Nat → ClassId) (u : PSt) (hu : WT u) (h0 : Nat) (m_h0 : h0 ∈ u.1) (k_h0 : u.2.1 h0 = 12) (p1 : Int32) : Met l yX12_isPipe wsX12_isPipe ({ frames := 1, cells := 0, slots := 0, locals := 25 }) (PreR D k (PW k u) [.ref h0, .int p1]) (vp_Si (fun r => r.toInt = 0 ∨ (r.toInt = 1 ∧ 0 ≤ p1.toInt ∧ p1.toInt ≤ 11))) 0 0 (fun _ => False) := by
  refine Met.ofW (cc := cX12_isPipe) (maxL := 2) (ret := (some .boolean)) (by decide) rfl ?_
  intro p e s m args below meth c s₁ B hml hv
  obtain ⟨rfl, hP, hK⟩ := hv
  have hx := B.exec
  have hb := B.bytes
  have hr := B.returns
  have hts := atoms_spec (ws := wsX12_isPipe) B.pre
  have hown : s.vm.findClass RX12 = some m.cls := findClass_of_methodNamed B.named
  have hlocks := B.notSynchronized
  have i_X12 : ∀ w ∈ wsX120, w ∈ wsX12_isPipe := by decide +kernel
  obtain ⟨a1, q0_1, m0_a1, k0_a1⟩ := (hu h0 m_h0).1 1 50 (by rw [k_h0]; rfl)
  have m_a1 := m0_a1
  have k_a1 := k0_a1
  have hl := lv_entry ([.ref h0, .int p1]) (n := 2) (Nat.le_of_ble_eq_true rfl)
  rw [lg_entry_eq]
  generalize (lg_sl ([.ref h0, .int p1]) ++ List.replicate (2 - (lg_sl ([.ref h0, .int p1])).length) Slot.unset).toArray = ls at hl ⊢
  have hl : lv_has ls 2 [(0, .ref h0), (1, .int p1)] := hl
  refine lv_iload_n hx hb dX12_isPipe_0 rfl (lv_at hl 1 rfl) ?_
  refine lv_i2l hx hb dX12_isPipe_1 rfl ?_
  have b1 := Int32.toInt_lt p1
  have ab1 := Int32.le_toInt p1
  refine lv_topl (fun x2 ex2 => ?_)
  have tx2 : x2.toInt = p1.toInt := by rw [ex2]; exact Int32.toInt_toInt64 _
  refine lv_lconst (v := 0) hx hb dX12_isPipe_2 (by decide) ?_
  refine lv_aload_n hx hb dX12_isPipe_3 rfl (lv_at hl 0 rfl) ?_
  refine pget (ci := 12) (v := va_rf (u.2.2.2.2 h0 1)) (C := RX12) (T := TX12) (N := 34) hx hb hts i_X12 hown hK hP m_h0 (cF12 k_h0) rfl 1 (by decide) (hts (.fieldLink RX12 13 "BellowsRowModel" "world" "[I") (by decide +kernel)) (fun _ h9 => h9) rfl dX12_isPipe_4 ?_
  refine W.eq (g2 := F0 m 7 ls [.ref a1, .long 0, .long x2]) (by rw [q0_1]; rfl) ?_
  refine lv_iconst (v := 2) hx hb dX12_isPipe_7 (by decide) ?_
  refine palI hx hb hK hP m_a1 (cF50 k_a1) 1 rfl (vp_in_iff.mpr (by decide)) dX12_isPipe_8 ?_
  refine lv_topi (fun x3 ex3 => ?_)
  have tx3 : x3.toInt = (u.2.2.1 a1 2).toInt := congrArg Int32.toInt ex3
  have g4 : 0 ≤ x3.toInt ∧ x3.toInt ≤ 12 := by have g : okI (u.2.1 a1) (2) (u.2.2.1 a1 (2)) := (hu a1 m_a1).2.2.2 (2); rw [k_a1, ← (show x3 = u.2.2.1 a1 (2) from ex3)] at g; have g : okW (2) x3 := g; unfold okW at g; (try simp only [i_lt, i_le, i_eq, Int32.toInt_toInt64, Int32.reduceToInt, Int64.reduceToInt, true_and, and_true, false_and, and_false, false_or, or_false, true_or, or_true, not_true_eq_false, not_false_eq_true, ne_eq, forall_const, true_implies, false_implies, implies_true] at b1 ab1 tx2 tx3 g ⊢) <;> omega
  refine lv_iconst (v := 1) hx hb dX12_isPipe_9 (by decide) ?_
  refine lv_isub hx hb dX12_isPipe_10 ?_
  refine lv_topi (fun x5 ex5 => ?_)
  have tx5 : x5.toInt = x3.toInt - (1 : Int32).toInt := by rw [ex5]; exact i_sub (by (try simp only [i_lt, i_le, i_eq, Int32.toInt_toInt64, Int32.reduceToInt, Int64.reduceToInt, true_and, and_true, false_and, and_false, false_or, or_false, true_or, or_true, not_true_eq_false, not_false_eq_true, ne_eq, forall_const, true_implies, false_implies, implies_true] at b1 ab1 tx2 tx3 g4 ⊢) <;> omega) (by (try simp only [i_lt, i_le, i_eq, Int32.toInt_toInt64, Int32.reduceToInt, Int64.reduceToInt, true_and, and_true, false_and, and_false, false_or, or_false, true_or, or_true, not_true_eq_false, not_false_eq_true, ne_eq, forall_const, true_implies, false_implies, implies_true] at b1 ab1 tx2 tx3 g4 ⊢) <;> omega)
  refine lv_i2l hx hb dX12_isPipe_11 rfl ?_
  refine lv_topl (fun x6 ex6 => ?_)
  have tx6 : x6.toInt = x5.toInt := by rw [ex6]; exact Int32.toInt_toInt64 _
  refine psi (As := [.long x2, .long 0, .long x6]) (rest := []) ⟨hx, hb, hml, hown, hts⟩ (t_X12_in l D k x2 0 x6) (va_cwS 3 hts gX12_isPipe_X12_in rfl rfl rfl (by decide +kernel) ⟨Nat.le_of_ble_eq_true rfl, Nat.le_of_ble_eq_true rfl⟩) hK rfl hl.1 rfl (Nat.le_of_ble_eq_true rfl) dX12_isPipe_12 ⟨Nat.le_of_ble_eq_true rfl, Nat.le_of_ble_eq_true rfl⟩ (fun r7 hr7 => ?_)
  exact W.zret (v := r7) hx hb hr (z_nar (by (try simp only [i_lt, i_le, i_eq, Int32.toInt_toInt64, Int32.reduceToInt, Int64.reduceToInt, true_and, and_true, false_and, and_false, false_or, or_false, true_or, or_true, not_true_eq_false, not_false_eq_true, ne_eq, forall_const, true_implies, false_implies, implies_true] at b1 ab1 tx2 tx3 g4 tx5 tx6 hr7 ⊢) <;> omega)) (fun t ht hW => ⟨r7, rfl, (show r7.toInt = 0 ∨ (r7.toInt = 1 ∧ 0 ≤ p1.toInt ∧ p1.toInt ≤ 11) from by (try simp only [i_lt, i_le, i_eq, Int32.toInt_toInt64, Int32.reduceToInt, Int64.reduceToInt, true_and, and_true, false_and, and_false, false_or, or_false, true_or, or_true, not_true_eq_false, not_false_eq_true, ne_eq, forall_const, true_implies, false_implies, implies_true] at b1 ab1 tx2 tx3 g4 tx5 tx6 hr7 ⊢) <;> omega), ht⟩) (fun q h => by cases h) dX12_isPipe_15
set_option maxHeartbeats 4000000 in
set_option maxRecDepth 100000 in
theorem t_X12_isPot (l : Launch) (D : va_G) (k : Nat → ClassId) (u : PSt) (hu : WT u) (h0 : Nat) (m_h0 : h0 ∈ u.1) (k_h0 : u.2.1 h0 = 12) (p1 : Int32) : Met l yX12_isPot wsX12_isPot ({ frames := 1, cells := 0, slots := 0, locals := 25 }) (PreR D k (PW k u) [.ref h0, .int p1]) (vp_Si (fun r => r.toInt = 0 ∨ (r.toInt = 1 ∧ 0 ≤ p1.toInt ∧ p1.toInt ≤ 7))) 0 0 (fun _ => False) := by
  refine Met.ofW (cc := cX12_isPot) (maxL := 2) (ret := (some .boolean)) (by decide) rfl ?_
  intro p e s m args below meth c s₁ B hml hv
  obtain ⟨rfl, hP, hK⟩ := hv
  have hx := B.exec
  have hb := B.bytes
  have hr := B.returns
  have hts := atoms_spec (ws := wsX12_isPot) B.pre
  have hown : s.vm.findClass RX12 = some m.cls := findClass_of_methodNamed B.named
  have hlocks := B.notSynchronized
  have i_X12 : ∀ w ∈ wsX120, w ∈ wsX12_isPot := by decide +kernel
  obtain ⟨a1, q0_1, m0_a1, k0_a1⟩ := (hu h0 m_h0).1 1 50 (by rw [k_h0]; rfl)
  have m_a1 := m0_a1
  have k_a1 := k0_a1
  have hl := lv_entry ([.ref h0, .int p1]) (n := 2) (Nat.le_of_ble_eq_true rfl)
  rw [lg_entry_eq]
  generalize (lg_sl ([.ref h0, .int p1]) ++ List.replicate (2 - (lg_sl ([.ref h0, .int p1])).length) Slot.unset).toArray = ls at hl ⊢
  have hl : lv_has ls 2 [(0, .ref h0), (1, .int p1)] := hl
  refine lv_iload_n hx hb dX12_isPot_0 rfl (lv_at hl 1 rfl) ?_
  refine lv_i2l hx hb dX12_isPot_1 rfl ?_
  have b1 := Int32.toInt_lt p1
  have ab1 := Int32.le_toInt p1
  refine lv_topl (fun x2 ex2 => ?_)
  have tx2 : x2.toInt = p1.toInt := by rw [ex2]; exact Int32.toInt_toInt64 _
  refine lv_lconst (v := 0) hx hb dX12_isPot_2 (by decide) ?_
  refine lv_aload_n hx hb dX12_isPot_3 rfl (lv_at hl 0 rfl) ?_
  refine pget (ci := 12) (v := va_rf (u.2.2.2.2 h0 1)) (C := RX12) (T := TX12) (N := 34) hx hb hts i_X12 hown hK hP m_h0 (cF12 k_h0) rfl 1 (by decide) (hts (.fieldLink RX12 13 "BellowsRowModel" "world" "[I") (by decide +kernel)) (fun _ h9 => h9) rfl dX12_isPot_4 ?_
  refine W.eq (g2 := F0 m 7 ls [.ref a1, .long 0, .long x2]) (by rw [q0_1]; rfl) ?_
  refine lv_iconst (v := 1) hx hb dX12_isPot_7 (by decide) ?_
  refine palI hx hb hK hP m_a1 (cF50 k_a1) 1 rfl (vp_in_iff.mpr (by decide)) dX12_isPot_8 ?_
  refine lv_topi (fun x3 ex3 => ?_)
  have tx3 : x3.toInt = (u.2.2.1 a1 1).toInt := congrArg Int32.toInt ex3
  have g4 : 0 ≤ x3.toInt ∧ x3.toInt ≤ 8 := by have g : okI (u.2.1 a1) (1) (u.2.2.1 a1 (1)) := (hu a1 m_a1).2.2.2 (1); rw [k_a1, ← (show x3 = u.2.2.1 a1 (1) from ex3)] at g; have g : okW (1) x3 := g; unfold okW at g; (try simp only [i_lt, i_le, i_eq, Int32.toInt_toInt64, Int32.reduceToInt, Int64.reduceToInt, true_and, and_true, false_and, and_false, false_or, or_false, true_or, or_true, not_true_eq_false, not_false_eq_true, ne_eq, forall_const, true_implies, false_implies, implies_true] at b1 ab1 tx2 tx3 g ⊢) <;> omega
  refine lv_iconst (v := 1) hx hb dX12_isPot_9 (by decide) ?_
  refine lv_isub hx hb dX12_isPot_10 ?_
  refine lv_topi (fun x5 ex5 => ?_)
  have tx5 : x5.toInt = x3.toInt - (1 : Int32).toInt := by rw [ex5]; exact i_sub (by (try simp only [i_lt, i_le, i_eq, Int32.toInt_toInt64, Int32.reduceToInt, Int64.reduceToInt, true_and, and_true, false_and, and_false, false_or, or_false, true_or, or_true, not_true_eq_false, not_false_eq_true, ne_eq, forall_const, true_implies, false_implies, implies_true] at b1 ab1 tx2 tx3 g4 ⊢) <;> omega) (by (try simp only [i_lt, i_le, i_eq, Int32.toInt_toInt64, Int32.reduceToInt, Int64.reduceToInt, true_and, and_true, false_and, and_false, false_or, or_false, true_or, or_true, not_true_eq_false, not_false_eq_true, ne_eq, forall_const, true_implies, false_implies, implies_true] at b1 ab1 tx2 tx3 g4 ⊢) <;> omega)
  refine lv_i2l hx hb dX12_isPot_11 rfl ?_
  refine lv_topl (fun x6 ex6 => ?_)
  have tx6 : x6.toInt = x5.toInt := by rw [ex6]; exact Int32.toInt_toInt64 _
  refine psi (As := [.long x2, .long 0, .long x6]) (rest := []) ⟨hx, hb, hml, hown, hts⟩ (t_X12_in l D k x2 0 x6) (va_cwS 3 hts gX12_isPot_X12_in rfl rfl rfl (by decide +kernel) ⟨Nat.le_of_ble_eq_true rfl, Nat.le_of_ble_eq_true rfl⟩) hK rfl hl.1 rfl (Nat.le_of_ble_eq_true rfl) dX12_isPot_12 ⟨Nat.le_of_ble_eq_true rfl, Nat.le_of_ble_eq_true rfl⟩ (fun r7 hr7 => ?_)
  exact W.zret (v := r7) hx hb hr (z_nar (by (try simp only [i_lt, i_le, i_eq, Int32.toInt_toInt64, Int32.reduceToInt, Int64.reduceToInt, true_and, and_true, false_and, and_false, false_or, or_false, true_or, or_true, not_true_eq_false, not_false_eq_true, ne_eq, forall_const, true_implies, false_implies, implies_true] at b1 ab1 tx2 tx3 g4 tx5 tx6 hr7 ⊢) <;> omega)) (fun t ht hW => ⟨r7, rfl, (show r7.toInt = 0 ∨ (r7.toInt = 1 ∧ 0 ≤ p1.toInt ∧ p1.toInt ≤ 7) from by (try simp only [i_lt, i_le, i_eq, Int32.toInt_toInt64, Int32.reduceToInt, Int64.reduceToInt, true_and, and_true, false_and, and_false, false_or, or_false, true_or, or_true, not_true_eq_false, not_false_eq_true, ne_eq, forall_const, true_implies, false_implies, implies_true] at b1 ab1 tx2 tx3 g4 tx5 tx6 hr7 ⊢) <;> omega), ht⟩) (fun q h => by cases h) dX12_isPot_15
set_option maxHeartbeats 4000000 in
set_option maxRecDepth 100000 in
theorem t_X12_isPress (l : Launch) (D : va_G) (k : Nat → ClassId) (p1 : Int32) : Met l yX12_isPress wsX12_isPress ({ frames := 1, cells := 0, slots := 0, locals := 25 }) (PreR D k [] [.int p1]) (vp_Si (fun r => (r.toInt = 0 ∧ (p1.toInt < 0 ∨ 999 < p1.toInt)) ∨ (r.toInt = 1 ∧ 0 ≤ p1.toInt ∧ p1.toInt ≤ 999))) 0 0 (fun _ => False) := by
  refine Met.ofW (cc := cX12_isPress) (maxL := 1) (ret := (some .boolean)) (by decide) rfl ?_
  intro p e s m args below meth c s₁ B hml hv
  obtain ⟨rfl, hP, hK⟩ := hv
  have hx := B.exec
  have hb := B.bytes
  have hr := B.returns
  have hts := atoms_spec (ws := wsX12_isPress) B.pre
  have hown : s.vm.findClass RX12 = some m.cls := findClass_of_methodNamed B.named
  have hlocks := B.notSynchronized
  have hl := lv_entry ([.int p1]) (n := 1) (Nat.le_of_ble_eq_true rfl)
  rw [lg_entry_eq]
  generalize (lg_sl ([.int p1]) ++ List.replicate (1 - (lg_sl ([.int p1])).length) Slot.unset).toArray = ls at hl ⊢
  have hl : lv_has ls 1 [(0, .int p1)] := hl
  refine lv_iload_n hx hb dX12_isPress_0 rfl (lv_at hl 0 rfl) ?_
  refine lv_i2l hx hb dX12_isPress_1 rfl ?_
  have b1 := Int32.toInt_lt p1
  have ab1 := Int32.le_toInt p1
  refine lv_topl (fun x2 ex2 => ?_)
  have tx2 : x2.toInt = p1.toInt := by rw [ex2]; exact Int32.toInt_toInt64 _
  refine lv_lconst (v := 0) hx hb dX12_isPress_2 (by decide) ?_
  refine lv_ldc2 (own := RX12) (v := 999) hx hb hown (hts (.constantLong RX12 80 (999)) (by decide +kernel)) dX12_isPress_3 ?_
  refine psi (As := [.long x2, .long 0, .long 999]) (rest := []) ⟨hx, hb, hml, hown, hts⟩ (t_X12_in l D k x2 0 999) (va_cwS 3 hts gX12_isPress_X12_in rfl rfl rfl (by decide +kernel) ⟨Nat.le_of_ble_eq_true rfl, Nat.le_of_ble_eq_true rfl⟩) hK rfl hl.1 rfl (Nat.le_of_ble_eq_true rfl) dX12_isPress_6 ⟨Nat.le_of_ble_eq_true rfl, Nat.le_of_ble_eq_true rfl⟩ (fun r3 hr3 => ?_)
  exact W.zret (v := r3) hx hb hr (z_nar (by (try simp only [i_lt, i_le, i_eq, Int32.toInt_toInt64, Int32.reduceToInt, Int64.reduceToInt, true_and, and_true, false_and, and_false, false_or, or_false, true_or, or_true, not_true_eq_false, not_false_eq_true, ne_eq, forall_const, true_implies, false_implies, implies_true] at b1 ab1 tx2 hr3 ⊢) <;> omega)) (fun t ht hW => ⟨r3, rfl, (show (r3.toInt = 0 ∧ (p1.toInt < 0 ∨ 999 < p1.toInt)) ∨ (r3.toInt = 1 ∧ 0 ≤ p1.toInt ∧ p1.toInt ≤ 999) from by (try simp only [i_lt, i_le, i_eq, Int32.toInt_toInt64, Int32.reduceToInt, Int64.reduceToInt, true_and, and_true, false_and, and_false, false_or, or_false, true_or, or_true, not_true_eq_false, not_false_eq_true, ne_eq, forall_const, true_implies, false_implies, implies_true] at b1 ab1 tx2 hr3 ⊢) <;> omega), ht⟩) (fun q h => by cases h) dX12_isPress_9
set_option maxHeartbeats 4000000 in
set_option maxRecDepth 100000 in
theorem t_X12_isSlot (l : Launch) (D : va_G) (k : Nat → ClassId) (p1 : Int32) : Met l yX12_isSlot wsX12_isSlot ({ frames := 1, cells := 0, slots := 0, locals := 25 }) (PreR D k [] [.int p1]) (vp_Si (fun r => (r.toInt = 0 ∧ (p1.toInt < 0 ∨ 3 < p1.toInt)) ∨ (r.toInt = 1 ∧ 0 ≤ p1.toInt ∧ p1.toInt ≤ 3))) 0 0 (fun _ => False) := by
  refine Met.ofW (cc := cX12_isSlot) (maxL := 1) (ret := (some .boolean)) (by decide) rfl ?_
  intro p e s m args below meth c s₁ B hml hv
  obtain ⟨rfl, hP, hK⟩ := hv
  have hx := B.exec
  have hb := B.bytes
  have hr := B.returns
  have hts := atoms_spec (ws := wsX12_isSlot) B.pre
  have hown : s.vm.findClass RX12 = some m.cls := findClass_of_methodNamed B.named
  have hlocks := B.notSynchronized
  have hl := lv_entry ([.int p1]) (n := 1) (Nat.le_of_ble_eq_true rfl)
  rw [lg_entry_eq]
  generalize (lg_sl ([.int p1]) ++ List.replicate (1 - (lg_sl ([.int p1])).length) Slot.unset).toArray = ls at hl ⊢
  have hl : lv_has ls 1 [(0, .int p1)] := hl
  refine lv_iload_n hx hb dX12_isSlot_0 rfl (lv_at hl 0 rfl) ?_
  refine lv_i2l hx hb dX12_isSlot_1 rfl ?_
  have b1 := Int32.toInt_lt p1
  have ab1 := Int32.le_toInt p1
  refine lv_topl (fun x2 ex2 => ?_)
  have tx2 : x2.toInt = p1.toInt := by rw [ex2]; exact Int32.toInt_toInt64 _
  refine lv_lconst (v := 0) hx hb dX12_isSlot_2 (by decide) ?_
  refine lv_ldc2 (own := RX12) (v := 3) hx hb hown (hts (.constantLong RX12 334 (3)) (by decide +kernel)) dX12_isSlot_3 ?_
  refine psi (As := [.long x2, .long 0, .long 3]) (rest := []) ⟨hx, hb, hml, hown, hts⟩ (t_X12_in l D k x2 0 3) (va_cwS 3 hts gX12_isSlot_X12_in rfl rfl rfl (by decide +kernel) ⟨Nat.le_of_ble_eq_true rfl, Nat.le_of_ble_eq_true rfl⟩) hK rfl hl.1 rfl (Nat.le_of_ble_eq_true rfl) dX12_isSlot_6 ⟨Nat.le_of_ble_eq_true rfl, Nat.le_of_ble_eq_true rfl⟩ (fun r3 hr3 => ?_)
  exact W.zret (v := r3) hx hb hr (z_nar (by (try simp only [i_lt, i_le, i_eq, Int32.toInt_toInt64, Int32.reduceToInt, Int64.reduceToInt, true_and, and_true, false_and, and_false, false_or, or_false, true_or, or_true, not_true_eq_false, not_false_eq_true, ne_eq, forall_const, true_implies, false_implies, implies_true] at b1 ab1 tx2 hr3 ⊢) <;> omega)) (fun t ht hW => ⟨r3, rfl, (show (r3.toInt = 0 ∧ (p1.toInt < 0 ∨ 3 < p1.toInt)) ∨ (r3.toInt = 1 ∧ 0 ≤ p1.toInt ∧ p1.toInt ≤ 3) from by (try simp only [i_lt, i_le, i_eq, Int32.toInt_toInt64, Int32.reduceToInt, Int64.reduceToInt, true_and, and_true, false_and, and_false, false_or, or_false, true_or, or_true, not_true_eq_false, not_false_eq_true, ne_eq, forall_const, true_implies, false_implies, implies_true] at b1 ab1 tx2 hr3 ⊢) <;> omega), ht⟩) (fun q h => by cases h) dX12_isSlot_9
set_option maxHeartbeats 4000000 in
set_option maxRecDepth 100000 in
theorem t_X12_isThere (l : Launch) (D : va_G) (k : Nat → ClassId) (u : PSt) (hu : WT u) (h0 : Nat) (m_h0 : h0 ∈ u.1) (k_h0 : u.2.1 h0 = 12) (p1 : Int32) (p2 : Int32) (g_p1 : 0 ≤ p1.toInt ∧ p1.toInt ≤ 11) : Met l yX12_isThere wsX12_isThere ({ frames := 1, cells := 0, slots := 0, locals := 25 }) (PreR D k (PW k u) [.ref h0, .int p1, .int p2]) (vp_Si (fun r => 0 ≤ r.toInt ∧ r.toInt ≤ 1)) 0 0 (fun _ => False) := by
  refine Met.ofW (cc := cX12_isThere) (maxL := 4) (ret := (some .boolean)) (by decide) rfl ?_
  intro p e s m args below meth c s₁ B hml hv
  obtain ⟨rfl, hP, hK⟩ := hv
  have hx := B.exec
  have hb := B.bytes
  have hr := B.returns
  have hts := atoms_spec (ws := wsX12_isThere) B.pre
  have hown : s.vm.findClass RX12 = some m.cls := findClass_of_methodNamed B.named
  have hlocks := B.notSynchronized
  have i_X12 : ∀ w ∈ wsX120, w ∈ wsX12_isThere := by decide +kernel
  obtain ⟨a1, q0_1, m0_a1, k0_a1⟩ := (hu h0 m_h0).1 1 50 (by rw [k_h0]; rfl)
  have m_a1 := m0_a1
  have k_a1 := k0_a1
  have hl := lv_entry ([.ref h0, .int p1, .int p2]) (n := 4) (Nat.le_of_ble_eq_true rfl)
  rw [lg_entry_eq]
  generalize (lg_sl ([.ref h0, .int p1, .int p2]) ++ List.replicate (4 - (lg_sl ([.ref h0, .int p1, .int p2])).length) Slot.unset).toArray = ls at hl ⊢
  have hl : lv_has ls 4 [(0, .ref h0), (1, .int p1), (2, .int p2)] := hl
  refine lv_sipush (v := 374) hx hb dX12_isThere_0 (by decide) ?_
  refine lv_iconst (v := 4) hx hb dX12_isThere_3 (by decide) ?_
  refine lv_iload_n hx hb dX12_isThere_4 rfl (lv_at hl 1 rfl) ?_
  refine lv_imul hx hb dX12_isThere_5 ?_
  refine lv_topi (fun x1 ex1 => ?_)
  have tx1 : x1.toInt = 4 * p1.toInt := by rw [ex1]; exact i_mulc (c := 4) (by decide) ((show 0 ≤ p1.toInt ∧ p1.toInt ≤ 11 from by (try simp only [i_lt, i_le, i_eq, Int32.toInt_toInt64, Int32.reduceToInt, Int64.reduceToInt, true_and, and_true, false_and, and_false, false_or, or_false, true_or, or_true, not_true_eq_false, not_false_eq_true, ne_eq, forall_const, true_implies, false_implies, implies_true] at g_p1 ⊢) <;> omega)) (by decide)
  refine lv_iadd hx hb dX12_isThere_6 ?_
  refine lv_topi (fun x2 ex2 => ?_)
  have tx2 : x2.toInt = (374 : Int32).toInt + x1.toInt := by rw [ex2]; exact i_add (by (try simp only [i_lt, i_le, i_eq, Int32.toInt_toInt64, Int32.reduceToInt, Int64.reduceToInt, true_and, and_true, false_and, and_false, false_or, or_false, true_or, or_true, not_true_eq_false, not_false_eq_true, ne_eq, forall_const, true_implies, false_implies, implies_true] at g_p1 tx1 ⊢) <;> omega) (by (try simp only [i_lt, i_le, i_eq, Int32.toInt_toInt64, Int32.reduceToInt, Int64.reduceToInt, true_and, and_true, false_and, and_false, false_or, or_false, true_or, or_true, not_true_eq_false, not_false_eq_true, ne_eq, forall_const, true_implies, false_implies, implies_true] at g_p1 tx1 ⊢) <;> omega)
  refine lv_istore_n (lv' := [(3, .int x2), (0, .ref h0), (1, .int p1), (2, .int p2)]) hx hb dX12_isThere_7 rfl hl (by decide) rfl (fun ls hl => ?_)
  refine lv_aload_n hx hb dX12_isThere_8 rfl (lv_at hl 1 rfl) ?_
  refine pget (ci := 12) (v := va_rf (u.2.2.2.2 h0 1)) (C := RX12) (T := TX12) (N := 34) hx hb hts i_X12 hown hK hP m_h0 (cF12 k_h0) rfl 1 (by decide) (hts (.fieldLink RX12 13 "BellowsRowModel" "world" "[I") (by decide +kernel)) (fun _ h9 => h9) rfl dX12_isThere_9 ?_
  refine W.eq (g2 := F0 m 12 ls [.ref a1]) (by rw [q0_1]; rfl) ?_
  refine lv_iload_n hx hb dX12_isThere_12 rfl (lv_at hl 0 rfl) ?_
  refine lv_iconst (v := 1) hx hb dX12_isThere_13 (by decide) ?_
  refine lv_iadd hx hb dX12_isThere_14 ?_
  refine lv_topi (fun x3 ex3 => ?_)
  have tx3 : x3.toInt = x2.toInt + (1 : Int32).toInt := by rw [ex3]; exact i_add (by (try simp only [i_lt, i_le, i_eq, Int32.toInt_toInt64, Int32.reduceToInt, Int64.reduceToInt, true_and, and_true, false_and, and_false, false_or, or_false, true_or, or_true, not_true_eq_false, not_false_eq_true, ne_eq, forall_const, true_implies, false_implies, implies_true] at g_p1 tx1 tx2 ⊢) <;> omega) (by (try simp only [i_lt, i_le, i_eq, Int32.toInt_toInt64, Int32.reduceToInt, Int64.reduceToInt, true_and, and_true, false_and, and_false, false_or, or_false, true_or, or_true, not_true_eq_false, not_false_eq_true, ne_eq, forall_const, true_implies, false_implies, implies_true] at g_p1 tx1 tx2 ⊢) <;> omega)
  refine palI hx hb hK hP m_a1 (cF50 k_a1) 1 rfl (vp_in_iff.mpr (by (try simp only [i_lt, i_le, i_eq, Int32.toInt_toInt64, Int32.reduceToInt, Int64.reduceToInt, true_and, and_true, false_and, and_false, false_or, or_false, true_or, or_true, not_true_eq_false, not_false_eq_true, ne_eq, forall_const, true_implies, false_implies, implies_true] at g_p1 tx1 tx2 tx3 ⊢) <;> omega)) dX12_isThere_15 ?_
  refine lv_topi (fun x4 ex4 => ?_)
  have tx4 : x4.toInt = (u.2.2.1 a1 (x3.toNatClampNeg)).toInt := congrArg Int32.toInt ex4
  refine lv_if_eq (tgt := 45) hx hb dX12_isThere_16 (by decide) (fun c5 => ?_) (fun c5 => ?_)
  · refine lv_iconst (v := 1) hx hb dX12_isThere_45 (by decide) ?_
    refine lv_goto (tgt := 50) hx hb dX12_isThere_46 (by decide) ?_
    exact W.zret (v := 1) hx hb hr rfl (fun t ht hW => ⟨1, rfl, (by decide), ht⟩) (fun q h => by cases h) dX12_isThere_50
  · refine lv_iload_n hx hb dX12_isThere_19 rfl (lv_at hl 3 rfl) ?_
    refine lv_i2l hx hb dX12_isThere_20 rfl ?_
    have b6 := Int32.toInt_lt p2
    have ab6 := Int32.le_toInt p2
    refine lv_topl (fun x7 ex7 => ?_)
    have tx7 : x7.toInt = p2.toInt := by rw [ex7]; exact Int32.toInt_toInt64 _
    refine lv_aload_n hx hb dX12_isThere_21 rfl (lv_at hl 1 rfl) ?_
    refine pget (ci := 12) (v := va_rf (u.2.2.2.2 h0 1)) (C := RX12) (T := TX12) (N := 34) hx hb hts i_X12 hown hK hP m_h0 (cF12 k_h0) rfl 1 (by decide) (hts (.fieldLink RX12 13 "BellowsRowModel" "world" "[I") (by decide +kernel)) (fun _ h9 => h9) rfl dX12_isThere_22 ?_
    refine W.eq (g2 := F0 m 25 ls [.ref a1, .long x7]) (by rw [q0_1]; rfl) ?_
    refine lv_iload_n hx hb dX12_isThere_25 rfl (lv_at hl 0 rfl) ?_
    refine lv_iconst (v := 2) hx hb dX12_isThere_26 (by decide) ?_
    refine lv_iadd hx hb dX12_isThere_27 ?_
    refine lv_topi (fun x8 ex8 => ?_)
    have tx8 : x8.toInt = x2.toInt + (2 : Int32).toInt := by rw [ex8]; exact i_add (by (try simp only [i_lt, i_le, i_eq, Int32.toInt_toInt64, Int32.reduceToInt, Int64.reduceToInt, true_and, and_true, false_and, and_false, false_or, or_false, true_or, or_true, not_true_eq_false, not_false_eq_true, ne_eq, forall_const, true_implies, false_implies, implies_true] at g_p1 tx1 tx2 tx3 tx4 c5 b6 ab6 tx7 ⊢) <;> omega) (by (try simp only [i_lt, i_le, i_eq, Int32.toInt_toInt64, Int32.reduceToInt, Int64.reduceToInt, true_and, and_true, false_and, and_false, false_or, or_false, true_or, or_true, not_true_eq_false, not_false_eq_true, ne_eq, forall_const, true_implies, false_implies, implies_true] at g_p1 tx1 tx2 tx3 tx4 c5 b6 ab6 tx7 ⊢) <;> omega)
    refine palI hx hb hK hP m_a1 (cF50 k_a1) 1 rfl (vp_in_iff.mpr (by (try simp only [i_lt, i_le, i_eq, Int32.toInt_toInt64, Int32.reduceToInt, Int64.reduceToInt, true_and, and_true, false_and, and_false, false_or, or_false, true_or, or_true, not_true_eq_false, not_false_eq_true, ne_eq, forall_const, true_implies, false_implies, implies_true] at g_p1 tx1 tx2 tx3 tx4 c5 b6 ab6 tx7 tx8 ⊢) <;> omega)) dX12_isThere_28 ?_
    refine lv_topi (fun x9 ex9 => ?_)
    have tx9 : x9.toInt = (u.2.2.1 a1 (x8.toNatClampNeg)).toInt := congrArg Int32.toInt ex9
    refine lv_i2l hx hb dX12_isThere_29 rfl ?_
    have b10 := Int32.toInt_lt x9
    have ab10 := Int32.le_toInt x9
    refine lv_topl (fun x11 ex11 => ?_)
    have tx11 : x11.toInt = x9.toInt := by rw [ex11]; exact Int32.toInt_toInt64 _
    refine lv_aload_n hx hb dX12_isThere_30 rfl (lv_at hl 1 rfl) ?_
    refine pget (ci := 12) (v := va_rf (u.2.2.2.2 h0 1)) (C := RX12) (T := TX12) (N := 34) hx hb hts i_X12 hown hK hP m_h0 (cF12 k_h0) rfl 1 (by decide) (hts (.fieldLink RX12 13 "BellowsRowModel" "world" "[I") (by decide +kernel)) (fun _ h9 => h9) rfl dX12_isThere_31 ?_
    refine W.eq (g2 := F0 m 34 ls [.ref a1, .long x11, .long x7]) (by rw [q0_1]; rfl) ?_
    refine lv_iload_n hx hb dX12_isThere_34 rfl (lv_at hl 0 rfl) ?_
    refine lv_iconst (v := 3) hx hb dX12_isThere_35 (by decide) ?_
    refine lv_iadd hx hb dX12_isThere_36 ?_
    refine lv_topi (fun x12 ex12 => ?_)
    have tx12 : x12.toInt = x2.toInt + (3 : Int32).toInt := by rw [ex12]; exact i_add (by (try simp only [i_lt, i_le, i_eq, Int32.toInt_toInt64, Int32.reduceToInt, Int64.reduceToInt, true_and, and_true, false_and, and_false, false_or, or_false, true_or, or_true, not_true_eq_false, not_false_eq_true, ne_eq, forall_const, true_implies, false_implies, implies_true] at g_p1 tx1 tx2 tx3 tx4 c5 b6 ab6 tx7 tx8 tx9 b10 ab10 tx11 ⊢) <;> omega) (by (try simp only [i_lt, i_le, i_eq, Int32.toInt_toInt64, Int32.reduceToInt, Int64.reduceToInt, true_and, and_true, false_and, and_false, false_or, or_false, true_or, or_true, not_true_eq_false, not_false_eq_true, ne_eq, forall_const, true_implies, false_implies, implies_true] at g_p1 tx1 tx2 tx3 tx4 c5 b6 ab6 tx7 tx8 tx9 b10 ab10 tx11 ⊢) <;> omega)
    refine palI hx hb hK hP m_a1 (cF50 k_a1) 1 rfl (vp_in_iff.mpr (by (try simp only [i_lt, i_le, i_eq, Int32.toInt_toInt64, Int32.reduceToInt, Int64.reduceToInt, true_and, and_true, false_and, and_false, false_or, or_false, true_or, or_true, not_true_eq_false, not_false_eq_true, ne_eq, forall_const, true_implies, false_implies, implies_true] at g_p1 tx1 tx2 tx3 tx4 c5 b6 ab6 tx7 tx8 tx9 b10 ab10 tx11 tx12 ⊢) <;> omega)) dX12_isThere_37 ?_
    refine lv_topi (fun x13 ex13 => ?_)
    have tx13 : x13.toInt = (u.2.2.1 a1 (x12.toNatClampNeg)).toInt := congrArg Int32.toInt ex13
    refine lv_i2l hx hb dX12_isThere_38 rfl ?_
    have b14 := Int32.toInt_lt x13
    have ab14 := Int32.le_toInt x13
    refine lv_topl (fun x15 ex15 => ?_)
    have tx15 : x15.toInt = x13.toInt := by rw [ex15]; exact Int32.toInt_toInt64 _
    refine psi (As := [.long x7, .long x11, .long x15]) (rest := []) ⟨hx, hb, hml, hown, hts⟩ (t_X12_in l D k x7 x11 x15) (va_cwS 3 hts gX12_isThere_X12_in rfl rfl rfl (by decide +kernel) ⟨Nat.le_of_ble_eq_true rfl, Nat.le_of_ble_eq_true rfl⟩) hK rfl hl.1 rfl (Nat.le_of_ble_eq_true rfl) dX12_isThere_39 ⟨Nat.le_of_ble_eq_true rfl, Nat.le_of_ble_eq_true rfl⟩ (fun r16 hr16 => ?_)
    refine lv_if_ne (tgt := 49) hx hb dX12_isThere_42 (by decide) (fun c17 => ?_) (fun c17 => ?_)
    · have eb18 : r16.toInt = 1 := by rcases hr16 with ⟨q, -⟩ | ⟨q, -⟩; exact absurd (i_eq.mpr q) c17; exact q
      have fb18 : x11.toInt ≤ x7.toInt ∧ x7.toInt ≤ x15.toInt := by rcases hr16 with ⟨q, r⟩ | ⟨q, r⟩; exact absurd q (by omega); exact r
      clear hr16
      refine lv_iconst (v := 0) hx hb dX12_isThere_49 (by decide) ?_
      exact W.zret (v := 0) hx hb hr rfl (fun t ht hW => ⟨0, rfl, (by decide), ht⟩) (fun q h => by cases h) dX12_isThere_50
    · have eb19 : r16.toInt = 0 := by rcases hr16 with ⟨q, -⟩ | ⟨q, -⟩; exact q; (exact absurd (c17) (fun w => by rw [w] at q; exact absurd q (by decide)))
      have fb19 : (x7.toInt < x11.toInt ∨ x15.toInt < x7.toInt) := by rcases hr16 with ⟨q, r⟩ | ⟨q, r⟩; exact r; exact absurd q (by omega)
      clear hr16
      refine lv_iconst (v := 1) hx hb dX12_isThere_45 (by decide) ?_
      refine lv_goto (tgt := 50) hx hb dX12_isThere_46 (by decide) ?_
      exact W.zret (v := 1) hx hb hr rfl (fun t ht hW => ⟨1, rfl, (by decide), ht⟩) (fun q h => by cases h) dX12_isThere_50
set_option maxHeartbeats 4000000 in
set_option maxRecDepth 100000 in
theorem t_X12_judge (l : Launch) (D : va_G) (k : Nat → ClassId) (u : PSt) (hu : WT u) (h0 : Nat) (m_h0 : h0 ∈ u.1) (k_h0 : u.2.1 h0 = 12) (p1 : Int32) : Met l yX12_judge wsX12_judge ({ frames := 2, cells := 0, slots := 0, locals := 45 }) (PreR D k (PW k u) [.ref h0, .int p1]) (vp_Si (fun r => True)) 0 0 (fun _ => False) := by
  refine Met.ofW (cc := cX12_judge) (maxL := 3) (ret := (some .int)) (by decide) rfl ?_
  intro p e s m args below meth c s₁ B hml hv
  obtain ⟨rfl, hP, hK⟩ := hv
  have hx := B.exec
  have hb := B.bytes
  have hr := B.returns
  have hts := atoms_spec (ws := wsX12_judge) B.pre
  have hown : s.vm.findClass RX12 = some m.cls := findClass_of_methodNamed B.named
  have hlocks := B.notSynchronized
  have i_X12 : ∀ w ∈ wsX120, w ∈ wsX12_judge := by decide +kernel
  obtain ⟨a1, q0_1, m0_a1, k0_a1⟩ := (hu h0 m_h0).1 1 50 (by rw [k_h0]; rfl)
  obtain ⟨a30, q0_30, m0_a30, k0_a30⟩ := (hu h0 m_h0).1 30 60 (by rw [k_h0]; rfl)
  obtain ⟨a32, q0_32, m0_a32, k0_a32⟩ := (hu h0 m_h0).1 32 62 (by rw [k_h0]; rfl)
  have m_a1 := m0_a1
  have m_a30 := m0_a30
  have m_a32 := m0_a32
  have k_a1 := k0_a1
  have k_a30 := k0_a30
  have k_a32 := k0_a32
  have B25 : ∀ (n25 : Nat) (ls : Array Slot) (v1 : Int32) (v2 : Int32), (2147483648 - v2.toInt).toNat ≤ n25 → 0 ≤ v1.toInt ∧ v1.toInt ≤ 3 → 0 ≤ v2.toInt ∧ v2.toInt ≤ 60 → lv_has ls 3 [(0, .ref h0), (1, .int v1), (2, .int v2)] → W p l e (headSpec wsX12_judge ({ frames := 2, cells := 0, slots := 0, locals := 45 })).room s m ([.ref h0, .int p1] : List Value).toArray below meth c s.heap [] 0 0 (MQ below (vp_Si (fun r => True)) ([.ref h0, .int p1] : List Value).toArray s 0 0 (fun _ => False)) (F0 m 25 ls []) := by
    intro n25
    induction n25 with
    | zero =>
      intro ls v1 v2 hn25 g_v1 g_v2 hl
      exact absurd hn25 (by have := Int32.toInt_lt v2; have := Int32.le_toInt v2; omega)
    | succ n25 ih25 =>
      intro ls v1 v2 hn25 g_v1 g_v2 hl
      refine lv_iload_n hx hb dX12_judge_25 rfl (lv_at hl 2 rfl) ?_
      refine lv_aload_n hx hb dX12_judge_26 rfl (lv_at hl 0 rfl) ?_
      refine pget (ci := 12) (v := va_rf (u.2.2.2.2 h0 30)) (C := RX12) (T := TX12) (N := 34) hx hb hts i_X12 hown hK hP m_h0 (cF12 k_h0) rfl 30 (by decide) (hts (.fieldLink RX12 61 "BellowsRowModel" "slotMany" "[I") (by decide +kernel)) (fun _ h9 => h9) rfl dX12_judge_27 ?_
      refine W.eq (g2 := F0 m 30 ls [.ref a30, .int v2]) (by rw [q0_30]; rfl) ?_
      refine lv_iload_n hx hb dX12_judge_30 rfl (lv_at hl 1 rfl) ?_
      refine palI hx hb hK hP m_a30 (cF60 k_a30) 1 rfl (vp_in_iff.mpr (by (try simp only [i_lt, i_le, i_eq, Int32.toInt_toInt64, Int32.reduceToInt, Int64.reduceToInt, true_and, and_true, false_and, and_false, false_or, or_false, true_or, or_true, not_true_eq_false, not_false_eq_true, ne_eq, forall_const, true_implies, false_implies, implies_true] at g_v1 g_v2 hn25 ⊢) <;> omega)) dX12_judge_31 ?_
      refine lv_topi (fun x1 ex1 => ?_)
      have tx1 : x1.toInt = (u.2.2.1 a30 (v1.toNatClampNeg)).toInt := congrArg Int32.toInt ex1
      have g2 : -1 ≤ x1.toInt ∧ x1.toInt ≤ 60 := by have g := (hu a30 m_a30).2.2.2 (v1.toNatClampNeg); rw [k_a30] at g; rw [show x1 = _ from ex1]; exact g
      refine lv_icmp_ge (tgt := 78) hx hb dX12_judge_32 (by decide) (fun c3 => ?_) (fun c3 => ?_)
      · refine lv_iload_n hx hb dX12_judge_78 rfl (lv_at hl 2 rfl) ?_
        exact W.iret (v := v2) hx hb hr (fun t ht hW => ⟨v2, rfl, trivial, ht⟩) (fun q h => by cases h) dX12_judge_79
      · refine lv_iload_n hx hb dX12_judge_35 rfl (lv_at hl 2 rfl) ?_
        refine lv_aload_n hx hb dX12_judge_36 rfl (lv_at hl 0 rfl) ?_
        refine pget (ci := 12) (v := va_rf (u.2.2.2.2 h0 1)) (C := RX12) (T := TX12) (N := 34) hx hb hts i_X12 hown hK hP m_h0 (cF12 k_h0) rfl 1 (by decide) (hts (.fieldLink RX12 13 "BellowsRowModel" "world" "[I") (by decide +kernel)) (fun _ h9 => h9) rfl dX12_judge_37 ?_
        refine W.eq (g2 := F0 m 40 ls [.ref a1, .int v2]) (by rw [q0_1]; rfl) ?_
        refine lv_bipush (v := 6) hx hb dX12_judge_40 (by decide) ?_
        refine palI hx hb hK hP m_a1 (cF50 k_a1) 1 rfl (vp_in_iff.mpr (by decide)) dX12_judge_42 ?_
        refine lv_topi (fun x4 ex4 => ?_)
        have tx4 : x4.toInt = (u.2.2.1 a1 6).toInt := congrArg Int32.toInt ex4
        have g5 : 0 ≤ x4.toInt ∧ x4.toInt ≤ 2000 := by have g : okI (u.2.1 a1) (6) (u.2.2.1 a1 (6)) := (hu a1 m_a1).2.2.2 (6); rw [k_a1, ← (show x4 = u.2.2.1 a1 (6) from ex4)] at g; have g : okW (6) x4 := g; unfold okW at g; (try simp only [i_lt, i_le, i_eq, Int32.toInt_toInt64, Int32.reduceToInt, Int64.reduceToInt, true_and, and_true, false_and, and_false, false_or, or_false, true_or, or_true, not_true_eq_false, not_false_eq_true, ne_eq, forall_const, true_implies, false_implies, implies_true] at g_v1 g_v2 hn25 tx1 g2 c3 tx4 g ⊢) <;> omega
        refine lv_icmp_ge (tgt := 78) hx hb dX12_judge_43 (by decide) (fun c6 => ?_) (fun c6 => ?_)
        · refine lv_iload_n hx hb dX12_judge_78 rfl (lv_at hl 2 rfl) ?_
          exact W.iret (v := v2) hx hb hr (fun t ht hW => ⟨v2, rfl, trivial, ht⟩) (fun q h => by cases h) dX12_judge_79
        · refine lv_aload_n hx hb dX12_judge_46 rfl (lv_at hl 0 rfl) ?_
          refine pget (ci := 12) (v := va_rf (u.2.2.2.2 h0 32)) (C := RX12) (T := TX12) (N := 34) hx hb hts i_X12 hown hK hP m_h0 (cF12 k_h0) rfl 32 (by decide) (hts (.fieldLink RX12 67 "BellowsRowModel" "numbers" "[J") (by decide +kernel)) (fun _ h9 => h9) rfl dX12_judge_47 ?_
          refine W.eq (g2 := F0 m 50 ls [.ref a32]) (by rw [q0_32]; rfl) ?_
          refine lv_bipush (v := 60) hx hb dX12_judge_50 (by decide) ?_
          refine lv_iload_n hx hb dX12_judge_52 rfl (lv_at hl 1 rfl) ?_
          refine lv_imul hx hb dX12_judge_53 ?_
          refine lv_topi (fun x7 ex7 => ?_)
          have tx7 : x7.toInt = 60 * v1.toInt := by rw [ex7]; exact i_mulc (c := 60) (by decide) ((show 0 ≤ v1.toInt ∧ v1.toInt ≤ 3 from by (try simp only [i_lt, i_le, i_eq, Int32.toInt_toInt64, Int32.reduceToInt, Int64.reduceToInt, true_and, and_true, false_and, and_false, false_or, or_false, true_or, or_true, not_true_eq_false, not_false_eq_true, ne_eq, forall_const, true_implies, false_implies, implies_true] at g_v1 g_v2 hn25 tx1 g2 c3 tx4 g5 c6 ⊢) <;> omega)) (by decide)
          refine lv_iload_n hx hb dX12_judge_54 rfl (lv_at hl 2 rfl) ?_
          refine lv_iadd hx hb dX12_judge_55 ?_
          refine lv_topi (fun x8 ex8 => ?_)
          have tx8 : x8.toInt = x7.toInt + v2.toInt := by rw [ex8]; exact i_add (by (try simp only [i_lt, i_le, i_eq, Int32.toInt_toInt64, Int32.reduceToInt, Int64.reduceToInt, true_and, and_true, false_and, and_false, false_or, or_false, true_or, or_true, not_true_eq_false, not_false_eq_true, ne_eq, forall_const, true_implies, false_implies, implies_true] at g_v1 g_v2 hn25 tx1 g2 c3 tx4 g5 c6 tx7 ⊢) <;> omega) (by (try simp only [i_lt, i_le, i_eq, Int32.toInt_toInt64, Int32.reduceToInt, Int64.reduceToInt, true_and, and_true, false_and, and_false, false_or, or_false, true_or, or_true, not_true_eq_false, not_false_eq_true, ne_eq, forall_const, true_implies, false_implies, implies_true] at g_v1 g_v2 hn25 tx1 g2 c3 tx4 g5 c6 tx7 ⊢) <;> omega)
          refine palJ hx hb hK hP m_a32 (cF62 k_a32) 2 rfl (vp_in_iff.mpr (by (try simp only [i_lt, i_le, i_eq, Int32.toInt_toInt64, Int32.reduceToInt, Int64.reduceToInt, true_and, and_true, false_and, and_false, false_or, or_false, true_or, or_true, not_true_eq_false, not_false_eq_true, ne_eq, forall_const, true_implies, false_implies, implies_true] at g_v1 g_v2 hn25 tx1 g2 c3 tx4 g5 c6 tx7 tx8 ⊢) <;> omega)) dX12_judge_56 ?_
          refine lv_topl (fun x9 ex9 => ?_)
          refine lv_aload_n hx hb dX12_judge_57 rfl (lv_at hl 0 rfl) ?_
          refine pget (ci := 12) (v := va_rf (u.2.2.2.2 h0 1)) (C := RX12) (T := TX12) (N := 34) hx hb hts i_X12 hown hK hP m_h0 (cF12 k_h0) rfl 1 (by decide) (hts (.fieldLink RX12 13 "BellowsRowModel" "world" "[I") (by decide +kernel)) (fun _ h9 => h9) rfl dX12_judge_58 ?_
          refine W.eq (g2 := F0 m 61 ls [.ref a1, .long x9]) (by rw [q0_1]; rfl) ?_
          refine lv_sipush (v := 482) hx hb dX12_judge_61 (by decide) ?_
          refine lv_iload_n hx hb dX12_judge_64 rfl (lv_at hl 2 rfl) ?_
          refine lv_iadd hx hb dX12_judge_65 ?_
          refine lv_topi (fun x10 ex10 => ?_)
          have tx10 : x10.toInt = (482 : Int32).toInt + v2.toInt := by rw [ex10]; exact i_add (by (try simp only [i_lt, i_le, i_eq, Int32.toInt_toInt64, Int32.reduceToInt, Int64.reduceToInt, true_and, and_true, false_and, and_false, false_or, or_false, true_or, or_true, not_true_eq_false, not_false_eq_true, ne_eq, forall_const, true_implies, false_implies, implies_true] at g_v1 g_v2 hn25 tx1 g2 c3 tx4 g5 c6 tx7 tx8 ⊢) <;> omega) (by (try simp only [i_lt, i_le, i_eq, Int32.toInt_toInt64, Int32.reduceToInt, Int64.reduceToInt, true_and, and_true, false_and, and_false, false_or, or_false, true_or, or_true, not_true_eq_false, not_false_eq_true, ne_eq, forall_const, true_implies, false_implies, implies_true] at g_v1 g_v2 hn25 tx1 g2 c3 tx4 g5 c6 tx7 tx8 ⊢) <;> omega)
          refine palI hx hb hK hP m_a1 (cF50 k_a1) 1 rfl (vp_in_iff.mpr (by (try simp only [i_lt, i_le, i_eq, Int32.toInt_toInt64, Int32.reduceToInt, Int64.reduceToInt, true_and, and_true, false_and, and_false, false_or, or_false, true_or, or_true, not_true_eq_false, not_false_eq_true, ne_eq, forall_const, true_implies, false_implies, implies_true] at g_v1 g_v2 hn25 tx1 g2 c3 tx4 g5 c6 tx7 tx8 tx10 ⊢) <;> omega)) dX12_judge_66 ?_
          refine lv_topi (fun x11 ex11 => ?_)
          have tx11 : x11.toInt = (u.2.2.1 a1 (x10.toNatClampNeg)).toInt := congrArg Int32.toInt ex11
          have g12 : 0 ≤ x11.toInt ∧ x11.toInt ≤ 999 := by have g : okI (u.2.1 a1) (x10.toNatClampNeg) (u.2.2.1 a1 (x10.toNatClampNeg)) := (hu a1 m_a1).2.2.2 (x10.toNatClampNeg); rw [k_a1, ← (show x11 = u.2.2.1 a1 (x10.toNatClampNeg) from ex11)] at g; have g : okW (x10.toNatClampNeg) x11 := g; unfold okW at g; have z := cl_int (x := x10) (by (try simp only [i_lt, i_le, i_eq, Int32.toInt_toInt64, Int32.reduceToInt, Int64.reduceToInt, true_and, and_true, false_and, and_false, false_or, or_false, true_or, or_true, not_true_eq_false, not_false_eq_true, ne_eq, forall_const, true_implies, false_implies, implies_true] at g_v1 g_v2 hn25 tx1 g2 c3 tx4 g5 c6 tx7 tx8 tx10 tx11 ⊢) <;> omega); (try simp only [i_lt, i_le, i_eq, Int32.toInt_toInt64, Int32.reduceToInt, Int64.reduceToInt, true_and, and_true, false_and, and_false, false_or, or_false, true_or, or_true, not_true_eq_false, not_false_eq_true, ne_eq, forall_const, true_implies, false_implies, implies_true] at g_v1 g_v2 hn25 tx1 g2 c3 tx4 g5 c6 tx7 tx8 tx10 tx11 g z ⊢) <;> omega
          refine lv_i2l hx hb dX12_judge_67 rfl ?_
          refine lv_topl (fun x13 ex13 => ?_)
          have tx13 : x13.toInt = x11.toInt := by rw [ex13]; exact Int32.toInt_toInt64 _
          refine W.lcmp hx hb dX12_judge_68 ?_
          refine lv_if_ne (tgt := 78) hx hb dX12_judge_69 (by decide) (fun c14 => ?_) (fun c14 => ?_)
          · simp only [lg_cmp_lt, lg_cmp_gt, lg_cmp_le, lg_cmp_ge, lg_cmp_eq, Int64.lt_iff_toInt_lt, Int64.le_iff_toInt_le] at c14
            refine lv_iload_n hx hb dX12_judge_78 rfl (lv_at hl 2 rfl) ?_
            exact W.iret (v := v2) hx hb hr (fun t ht hW => ⟨v2, rfl, trivial, ht⟩) (fun q h => by cases h) dX12_judge_79
          · simp only [lg_cmp_lt, lg_cmp_gt, lg_cmp_le, lg_cmp_ge, lg_cmp_eq, Int64.lt_iff_toInt_lt, Int64.le_iff_toInt_le] at c14
            obtain ⟨x15, ex15⟩ : ∃ y : Int32, y = v2 + 1 := ⟨_, rfl⟩
            have tx15 : x15.toInt = v2.toInt + 1 := by rw [ex15]; exact i_add (b := 1) (by (try simp only [i_lt, i_le, i_eq, Int32.toInt_toInt64, Int32.reduceToInt, Int64.reduceToInt, true_and, and_true, false_and, and_false, false_or, or_false, true_or, or_true, not_true_eq_false, not_false_eq_true, ne_eq, forall_const, true_implies, false_implies, implies_true] at g_v1 g_v2 hn25 tx1 g2 c3 tx4 g5 c6 tx7 tx8 tx10 tx11 g12 tx13 ⊢) <;> omega) (by (try simp only [i_lt, i_le, i_eq, Int32.toInt_toInt64, Int32.reduceToInt, Int64.reduceToInt, true_and, and_true, false_and, and_false, false_or, or_false, true_or, or_true, not_true_eq_false, not_false_eq_true, ne_eq, forall_const, true_implies, false_implies, implies_true] at g_v1 g_v2 hn25 tx1 g2 c3 tx4 g5 c6 tx7 tx8 tx10 tx11 g12 tx13 ⊢) <;> omega)
            refine lv_iinc (v := x15) (lv' := [(2, .int x15), (0, .ref h0), (1, .int v1)]) hx hb dX12_judge_72 hl (k := 2) rfl (by rw [ex15]; rfl) (by decide) rfl (fun ls hl => ?_)
            refine lv_goto (tgt := 25) hx hb dX12_judge_75 (by decide) ?_
            exact ih25 ls v1 x15 (by (try simp only [i_lt, i_le, i_eq, Int32.toInt_toInt64, Int32.reduceToInt, Int64.reduceToInt, true_and, and_true, false_and, and_false, false_or, or_false, true_or, or_true, not_true_eq_false, not_false_eq_true, ne_eq, forall_const, true_implies, false_implies, implies_true] at g_v1 g_v2 hn25 tx1 g2 c3 tx4 g5 c6 tx7 tx8 tx10 tx11 g12 tx13 tx15 ⊢) <;> omega) (by (try simp only [i_lt, i_le, i_eq, Int32.toInt_toInt64, Int32.reduceToInt, Int64.reduceToInt, true_and, and_true, false_and, and_false, false_or, or_false, true_or, or_true, not_true_eq_false, not_false_eq_true, ne_eq, forall_const, true_implies, false_implies, implies_true] at g_v1 g_v2 hn25 tx1 g2 c3 tx4 g5 c6 tx7 tx8 tx10 tx11 g12 tx13 tx15 ⊢) <;> omega) (by (try simp only [i_lt, i_le, i_eq, Int32.toInt_toInt64, Int32.reduceToInt, Int64.reduceToInt, true_and, and_true, false_and, and_false, false_or, or_false, true_or, or_true, not_true_eq_false, not_false_eq_true, ne_eq, forall_const, true_implies, false_implies, implies_true] at g_v1 g_v2 hn25 tx1 g2 c3 tx4 g5 c6 tx7 tx8 tx10 tx11 g12 tx13 tx15 ⊢) <;> omega) (lv_sub hl [1, 2, 0] rfl)
  have hl := lv_entry ([.ref h0, .int p1]) (n := 3) (Nat.le_of_ble_eq_true rfl)
  rw [lg_entry_eq]
  generalize (lg_sl ([.ref h0, .int p1]) ++ List.replicate (3 - (lg_sl ([.ref h0, .int p1])).length) Slot.unset).toArray = ls at hl ⊢
  have hl : lv_has ls 3 [(0, .ref h0), (1, .int p1)] := hl
  refine lv_iload_n hx hb dX12_judge_0 rfl (lv_at hl 1 rfl) ?_
  refine psi (As := [.int p1]) (rest := []) ⟨hx, hb, hml, hown, hts⟩ (t_X12_isSlot l D k p1) (va_cwS 1 hts gX12_judge_X12_isSlot rfl rfl rfl (by decide +kernel) ⟨Nat.le_of_ble_eq_true rfl, Nat.le_of_ble_eq_true rfl⟩) hK rfl hl.1 rfl (Nat.le_of_ble_eq_true rfl) dX12_judge_1 ⟨Nat.le_of_ble_eq_true rfl, Nat.le_of_ble_eq_true rfl⟩ (fun r16 hr16 => ?_)
  refine lv_if_ne (tgt := 10) hx hb dX12_judge_4 (by decide) (fun c17 => ?_) (fun c17 => ?_)
  · have eb18 : r16.toInt = 1 := by rcases hr16 with ⟨q, -⟩ | ⟨q, -⟩; exact absurd (i_eq.mpr q) c17; exact q
    have fb18 : 0 ≤ p1.toInt ∧ p1.toInt ≤ 3 := by rcases hr16 with ⟨q, r⟩ | ⟨q, r⟩; exact absurd q (by omega); exact r
    clear hr16
    refine lv_aload_n hx hb dX12_judge_10 rfl (lv_at hl 0 rfl) ?_
    refine pget (ci := 12) (v := va_rf (u.2.2.2.2 h0 30)) (C := RX12) (T := TX12) (N := 34) hx hb hts i_X12 hown hK hP m_h0 (cF12 k_h0) rfl 30 (by decide) (hts (.fieldLink RX12 61 "BellowsRowModel" "slotMany" "[I") (by decide +kernel)) (fun _ h9 => h9) rfl dX12_judge_11 ?_
    refine W.eq (g2 := F0 m 14 ls [.ref a30]) (by rw [q0_30]; rfl) ?_
    refine lv_iload_n hx hb dX12_judge_14 rfl (lv_at hl 1 rfl) ?_
    refine palI hx hb hK hP m_a30 (cF60 k_a30) 1 rfl (vp_in_iff.mpr (by (try simp only [i_lt, i_le, i_eq, Int32.toInt_toInt64, Int32.reduceToInt, Int64.reduceToInt, true_and, and_true, false_and, and_false, false_or, or_false, true_or, or_true, not_true_eq_false, not_false_eq_true, ne_eq, forall_const, true_implies, false_implies, implies_true] at eb18 fb18 ⊢) <;> omega)) dX12_judge_15 ?_
    refine lv_topi (fun x19 ex19 => ?_)
    have tx19 : x19.toInt = (u.2.2.1 a30 (p1.toNatClampNeg)).toInt := congrArg Int32.toInt ex19
    have g20 : -1 ≤ x19.toInt ∧ x19.toInt ≤ 60 := by have g := (hu a30 m_a30).2.2.2 (p1.toNatClampNeg); rw [k_a30] at g; rw [show x19 = _ from ex19]; exact g
    refine lv_iconst (v := (-1)) hx hb dX12_judge_16 (by decide) ?_
    refine lv_icmp_ne (tgt := 23) hx hb dX12_judge_17 (by decide) (fun c21 => ?_) (fun c21 => ?_)
    · refine lv_iconst (v := 0) hx hb dX12_judge_23 (by decide) ?_
      refine lv_istore_n (lv' := [(2, .int 0), (0, .ref h0), (1, .int p1)]) hx hb dX12_judge_24 rfl hl (by decide) rfl (fun ls hl => ?_)
      exact B25 _ ls p1 0 (Nat.le_refl _) (by (try simp only [i_lt, i_le, i_eq, Int32.toInt_toInt64, Int32.reduceToInt, Int64.reduceToInt, true_and, and_true, false_and, and_false, false_or, or_false, true_or, or_true, not_true_eq_false, not_false_eq_true, ne_eq, forall_const, true_implies, false_implies, implies_true] at eb18 fb18 tx19 g20 c21 ⊢) <;> omega) (by (try simp only [i_lt, i_le, i_eq, Int32.toInt_toInt64, Int32.reduceToInt, Int64.reduceToInt, true_and, and_true, false_and, and_false, false_or, or_false, true_or, or_true, not_true_eq_false, not_false_eq_true, ne_eq, forall_const, true_implies, false_implies, implies_true] at eb18 fb18 tx19 g20 c21 ⊢) <;> omega) (lv_sub hl [1, 2, 0] rfl)
    · refine lv_bipush (v := (-6)) hx hb dX12_judge_20 (by decide) ?_
      exact W.iret (v := (-6)) hx hb hr (fun t ht hW => ⟨(-6), rfl, trivial, ht⟩) (fun q h => by cases h) dX12_judge_22
  · have eb22 : r16.toInt = 0 := by rcases hr16 with ⟨q, -⟩ | ⟨q, -⟩; exact q; (exact absurd (c17) (fun w => by rw [w] at q; exact absurd q (by decide)))
    have fb22 : (p1.toInt < 0 ∨ 3 < p1.toInt) := by rcases hr16 with ⟨q, r⟩ | ⟨q, r⟩; exact r; exact absurd q (by omega)
    clear hr16
    refine lv_bipush (v := (-2)) hx hb dX12_judge_7 (by decide) ?_
    exact W.iret (v := (-2)) hx hb hr (fun t ht hW => ⟨(-2), rfl, trivial, ht⟩) (fun q h => by cases h) dX12_judge_9
