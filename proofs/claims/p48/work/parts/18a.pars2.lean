set_option maxHeartbeats 4000000 in
set_option maxRecDepth 100000 in
theorem t_X12_takes (l : Launch) (D : va_G) (k : Nat → ClassId) (tt : TT) (u0 : PSt) (hu : WT u0) (h0 : Nat) (m_h0 : h0 ∈ u0.1) (k_h0 : u0.2.1 h0 = 12) (w1 : Nat) (hw_w1 : w1 < nTX) (sz : Nat) : Met l yX12_takes wsX12_takes ({ frames := 5, cells := 0, slots := 0, locals := 108 }) (PreT D k tt sz (PW k u0) [.ref h0, .ref (tt.1 w1)]) (va_Qi (fun r v => WT v ∧ PX u0 v ∧ KF u0 v ∧ ((r.toInt = 0 ∧ ¬ isP u0 h0 w1 ∧ v = u0) ∨ (r.toInt = 1 ∧ isP u0 h0 w1 ∧ (u0.2.2.1 h0 12).toInt = 0 ∧ (v.2.2.1 h0 12).toInt = 0 ∧ (u0.2.2.1 h0 8).toInt ≤ (v.2.2.1 h0 9).toInt))) (WB D (va_A (PW k u0) sz) (PW k)) (va_A (PW k u0) sz)) 0 0 (va_A (PW k u0) sz) := by
  refine Met.ofW (cc := cX12_takes) (maxL := 3) (ret := (some .boolean)) (by decide) rfl ?_
  intro p e s m args below meth c s₁ B hml hv
  obtain ⟨rfl, hsz, hP, hK, hD0, hN, hE0⟩ := hv
  have hx := B.exec
  have hb := B.bytes
  have hr := B.returns
  have hts := atoms_spec (ws := wsX12_takes) B.pre
  have hown : s.vm.findClass RX12 = some m.cls := findClass_of_methodNamed B.named
  have hlocks := B.notSynchronized
  have m0_h0 := m_h0
  have k0_h0 := k_h0
  subst hsz
  have hD := hD0.self (sz := s.heap.size)
  have hE := hE0
  generalize hAe : va_A (PW k u0) s.heap.size = A at hD hE ⊢
  have hA : ∀ q : Nat, s.heap.size ≤ q → A q := fun q h => by rw [← hAe]; exact Or.inr h
  have hS : va_S A s.heap s.heap [] := va_S.rf
  have hp : PX u0 u0 := PX.rf
  have hkf : KF u0 u0 := KF.rf
  have hl := lv_entry ([.ref h0, .ref (tt.1 w1)]) (n := 3) (Nat.le_of_ble_eq_true rfl)
  rw [lg_entry_eq]
  generalize (lg_sl ([.ref h0, .ref (tt.1 w1)]) ++ List.replicate (3 - (lg_sl ([.ref h0, .ref (tt.1 w1)])).length) Slot.unset).toArray = ls at hl ⊢
  have hl : lv_has ls 3 [(0, .ref h0), (1, .ref (tt.1 w1))] := hl
  refine lv_aload_n hx hb dX12_takes_0 rfl (lv_at hl 0 rfl) ?_
  refine lv_aload_n hx hb dX12_takes_1 rfl (lv_at hl 1 rfl) ?_
  refine xiV (C := RX12) (As := [.ref (tt.1 w1)]) (rest := []) ⟨hx, hb, hml, hown, hts⟩ (fun sz => t_X12_is l D k tt u0 hu h0 m_h0 k_h0 w1 hw_w1 sz) (cwV 1 hts gX12_takes_X12_is rfl rfl rfl (by decide +kernel) ⟨Nat.le_of_ble_eq_true rfl, Nat.le_of_ble_eq_true rfl⟩) hP hK hD hN hE hS hA (precv hK hP m_h0 (cF12 k_h0) rfl) rfl hl.1 rfl (Nat.le_of_ble_eq_true rfl) dX12_takes_2 ⟨Nat.le_of_ble_eq_true rfl, Nat.le_of_ble_eq_true rfl⟩ (fun r1 u2 H locs hqu2 hP hD hS => ?_)
  obtain ⟨hu, hxu2, hr1⟩ := hqu2
  have sameu2 : u0 = u2 := hr1.1.symm
  subst sameu2
  have hr1 := hr1.2
  rcases hr1 with ⟨er1, hnr1⟩ | ⟨er1, hir1, har1⟩
  · refine lv_istore_n (lv' := [(2, .int r1), (0, .ref h0), (1, .ref (tt.1 w1))]) hx hb dX12_takes_5 rfl hl (by decide) rfl (fun ls hl => ?_)
    refine lv_iload_n hx hb dX12_takes_6 rfl (lv_at hl 0 rfl) ?_
    refine lv_if_eq (tgt := 14) hx hb dX12_takes_7 (by decide) (fun _ => ?_) (fun h => absurd (by (try simp only [i_lt, i_le, i_eq, Int32.toInt_toInt64, Int32.reduceToInt, Int64.reduceToInt, true_and, and_true, false_and, and_false, false_or, or_false, true_or, or_true, not_true_eq_false, not_false_eq_true, ne_eq, forall_const, true_implies, false_implies, implies_true] at er1 ⊢) <;> omega) h)
    refine lv_iload_n hx hb dX12_takes_14 rfl (lv_at hl 0 rfl) ?_
    exact W.zret (v := r1) hx hb hr (z_nar (by (try simp only [i_lt, i_le, i_eq, Int32.toInt_toInt64, Int32.reduceToInt, Int64.reduceToInt, true_and, and_true, false_and, and_false, false_or, or_false, true_or, or_true, not_true_eq_false, not_false_eq_true, ne_eq, forall_const, true_implies, false_implies, implies_true] at er1 ⊢) <;> omega)) (fun t ht hW => ⟨⟨r1, u0, rfl, ⟨hu, hp, hkf, (Or.inl ⟨by (try simp only [i_lt, i_le, i_eq, Int32.toInt_toInt64, Int32.reduceToInt, Int64.reduceToInt, true_and, and_true, false_and, and_false, false_or, or_false, true_or, or_true, not_true_eq_false, not_false_eq_true, ne_eq, forall_const, true_implies, false_implies, implies_true] at er1 ⊢) <;> omega, hnr1, rfl⟩)⟩, by rw [ht]; exact hP, hD⟩, hS.F ht⟩) hS.2.2 dX12_takes_15
  · refine lv_istore_n (lv' := [(2, .int r1), (0, .ref h0), (1, .ref (tt.1 w1))]) hx hb dX12_takes_5 rfl hl (by decide) rfl (fun ls hl => ?_)
    refine lv_iload_n hx hb dX12_takes_6 rfl (lv_at hl 0 rfl) ?_
    refine lv_if_eq (tgt := 14) hx hb dX12_takes_7 (by decide) (fun h => absurd h (by (try simp only [i_lt, i_le, i_eq, Int32.toInt_toInt64, Int32.reduceToInt, Int64.reduceToInt, true_and, and_true, false_and, and_false, false_or, or_false, true_or, or_true, not_true_eq_false, not_false_eq_true, ne_eq, forall_const, true_implies, false_implies, implies_true] at er1 har1 ⊢) <;> omega)) (fun _ => ?_)
    refine lv_aload_n hx hb dX12_takes_10 rfl (lv_at hl 1 rfl) ?_
    refine wvV (C := RX12) (As := []) (rest := []) ⟨hx, hb, hml, hown, hts⟩ (fun sz => t_X12_advance l D k u0 hu h0 m_h0 k_h0  sz) (cwV 0 hts gX12_takes_X12_advance rfl rfl rfl (by decide +kernel) ⟨Nat.le_of_ble_eq_true rfl, Nat.le_of_ble_eq_true rfl⟩) hP hK hD hN hS hA (precv hK hP m_h0 (cF12 k_h0) rfl) rfl hl.1 rfl (Nat.le_of_ble_eq_true rfl) dX12_takes_11 ⟨Nat.le_of_ble_eq_true rfl, Nat.le_of_ble_eq_true rfl⟩ (fun u4 H locs hqu4 hP hD hS => ?_)
    obtain ⟨hu, hxu4, z5, hr3⟩ := hqu4
    have hkf := KF.trans hkf hp z5
    have hp := PX.trans hp hxu4
    refine lv_iload_n hx hb dX12_takes_14 rfl (lv_at hl 0 rfl) ?_
    exact W.zret (v := r1) hx hb hr (z_nar (by (try simp only [i_lt, i_le, i_eq, Int32.toInt_toInt64, Int32.reduceToInt, Int64.reduceToInt, true_and, and_true, false_and, and_false, false_or, or_false, true_or, or_true, not_true_eq_false, not_false_eq_true, ne_eq, forall_const, true_implies, false_implies, implies_true] at er1 har1 hr3 ⊢) <;> omega)) (fun t ht hW => ⟨⟨r1, u4, rfl, ⟨hu, hp, hkf, (Or.inr ⟨by (try simp only [i_lt, i_le, i_eq, Int32.toInt_toInt64, Int32.reduceToInt, Int64.reduceToInt, true_and, and_true, false_and, and_false, false_or, or_false, true_or, or_true, not_true_eq_false, not_false_eq_true, ne_eq, forall_const, true_implies, false_implies, implies_true] at er1 har1 hr3 ⊢) <;> omega, hir1, by (try simp only [i_lt, i_le, i_eq, Int32.toInt_toInt64, Int32.reduceToInt, Int64.reduceToInt, true_and, and_true, false_and, and_false, false_or, or_false, true_or, or_true, not_true_eq_false, not_false_eq_true, ne_eq, forall_const, true_implies, false_implies, implies_true] at er1 har1 hr3 ⊢) <;> omega⟩)⟩, by rw [ht]; exact hP, hD⟩, hS.F ht⟩) hS.2.2 dX12_takes_15
set_option maxHeartbeats 4000000 in
set_option maxRecDepth 100000 in
theorem t_X12_needsWord (l : Launch) (D : va_G) (k : Nat → ClassId) (tt : TT) (u0 : PSt) (hu : WT u0) (h0 : Nat) (m_h0 : h0 ∈ u0.1) (k_h0 : u0.2.1 h0 = 12) (w1 : Nat) (hw_w1 : w1 < nTX) (sz : Nat) : Met l yX12_needsWord wsX12_needsWord ({ frames := 6, cells := 0, slots := 0, locals := 130 }) (PreT D k tt sz (PW k u0) [.ref h0, .ref (tt.1 w1)]) (va_Qv (fun v => WT v ∧ PX u0 v ∧ KF u0 v ∧ (((v.2.2.1 h0 12).toInt = 0 → (u0.2.2.1 h0 12).toInt = 0))) (WB D (va_A (PW k u0) sz) (PW k)) (va_A (PW k u0) sz)) 0 0 (va_A (PW k u0) sz) := by
  refine Met.ofW (cc := cX12_needsWord) (maxL := 2) (ret := none) (by decide) rfl ?_
  intro p e s m args below meth c s₁ B hml hv
  obtain ⟨rfl, hsz, hP, hK, hD0, hN, hE0⟩ := hv
  have hx := B.exec
  have hb := B.bytes
  have hr := B.returns
  have hts := atoms_spec (ws := wsX12_needsWord) B.pre
  have hown : s.vm.findClass RX12 = some m.cls := findClass_of_methodNamed B.named
  have hlocks := B.notSynchronized
  have m0_h0 := m_h0
  have k0_h0 := k_h0
  subst hsz
  have hD := hD0.self (sz := s.heap.size)
  have hE := hE0
  generalize hAe : va_A (PW k u0) s.heap.size = A at hD hE ⊢
  have hA : ∀ q : Nat, s.heap.size ≤ q → A q := fun q h => by rw [← hAe]; exact Or.inr h
  have hS : va_S A s.heap s.heap [] := va_S.rf
  have hp : PX u0 u0 := PX.rf
  have hkf : KF u0 u0 := KF.rf
  have hl := lv_entry ([.ref h0, .ref (tt.1 w1)]) (n := 2) (Nat.le_of_ble_eq_true rfl)
  rw [lg_entry_eq]
  generalize (lg_sl ([.ref h0, .ref (tt.1 w1)]) ++ List.replicate (2 - (lg_sl ([.ref h0, .ref (tt.1 w1)])).length) Slot.unset).toArray = ls at hl ⊢
  have hl : lv_has ls 2 [(0, .ref h0), (1, .ref (tt.1 w1))] := hl
  refine lv_aload_n hx hb dX12_needsWord_0 rfl (lv_at hl 0 rfl) ?_
  refine lv_aload_n hx hb dX12_needsWord_1 rfl (lv_at hl 1 rfl) ?_
  refine xiV (C := RX12) (As := [.ref (tt.1 w1)]) (rest := []) ⟨hx, hb, hml, hown, hts⟩ (fun sz => t_X12_takes l D k tt u0 hu h0 m_h0 k_h0 w1 hw_w1 sz) (cwV 1 hts gX12_needsWord_X12_takes rfl rfl rfl (by decide +kernel) ⟨Nat.le_of_ble_eq_true rfl, Nat.le_of_ble_eq_true rfl⟩) hP hK hD hN hE hS hA (precv hK hP m_h0 (cF12 k_h0) rfl) rfl hl.1 rfl (Nat.le_of_ble_eq_true rfl) dX12_needsWord_2 ⟨Nat.le_of_ble_eq_true rfl, Nat.le_of_ble_eq_true rfl⟩ (fun r1 u2 H locs hqu2 hP hD hS => ?_)
  obtain ⟨hu, hxu2, z3, hr1⟩ := hqu2
  rcases hr1 with ⟨er1, hnr1, sameu2⟩ | ⟨er1, hir1, har1⟩
  · have sameu2 := sameu2.symm
    subst sameu2
    refine lv_if_ne (tgt := 13) hx hb dX12_needsWord_5 (by decide) (fun h => absurd (by (try simp only [i_lt, i_le, i_eq, Int32.toInt_toInt64, Int32.reduceToInt, Int64.reduceToInt, true_and, and_true, false_and, and_false, false_or, or_false, true_or, or_true, not_true_eq_false, not_false_eq_true, ne_eq, forall_const, true_implies, false_implies, implies_true] at er1 ⊢) <;> omega) h) (fun _ => ?_)
    refine lv_aload_n hx hb dX12_needsWord_8 rfl (lv_at hl 0 rfl) ?_
    refine lv_iconst (v := 1) hx hb dX12_needsWord_9 (by decide) ?_
    refine wvV (C := RX12) (As := [.int 1]) (rest := []) ⟨hx, hb, hml, hown, hts⟩ (fun sz => t_X12_errs l D k u0 hu h0 m_h0 k_h0 1 (by decide) sz) (cwV 1 hts gX12_needsWord_X12_errs rfl rfl rfl (by decide +kernel) ⟨Nat.le_of_ble_eq_true rfl, Nat.le_of_ble_eq_true rfl⟩) hP hK hD hN hS hA (precv hK hP m_h0 (cF12 k_h0) rfl) rfl hl.1 rfl (Nat.le_of_ble_eq_true rfl) dX12_needsWord_10 ⟨Nat.le_of_ble_eq_true rfl, Nat.le_of_ble_eq_true rfl⟩ (fun u5 H locs hqu5 hP hD hS => ?_)
    obtain ⟨hu, hxu5, z6, hr4⟩ := hqu5
    have hkf := KF.trans hkf hp z6
    have hp := PX.trans hp hxu5
    exact W.vret hx hb hr (fun t ht hW => ⟨⟨u5, rfl, ⟨hu, hp, hkf, (show ((u5.2.2.1 h0 12).toInt = 0 → (u0.2.2.1 h0 12).toInt = 0) from by (try simp only [i_lt, i_le, i_eq, Int32.toInt_toInt64, Int32.reduceToInt, Int64.reduceToInt, true_and, and_true, false_and, and_false, false_or, or_false, true_or, or_true, not_true_eq_false, not_false_eq_true, ne_eq, forall_const, true_implies, false_implies, implies_true] at er1 hr4 ⊢) <;> omega)⟩, by rw [ht]; exact hP, hD⟩, hS.F ht⟩) hS.2.2 dX12_needsWord_13
  · have hkf := KF.trans hkf hp z3
    have hp := PX.trans hp hxu2
    refine lv_if_ne (tgt := 13) hx hb dX12_needsWord_5 (by decide) (fun _ => ?_) (fun h => absurd h (by (try simp only [i_lt, i_le, i_eq, Int32.toInt_toInt64, Int32.reduceToInt, Int64.reduceToInt, true_and, and_true, false_and, and_false, false_or, or_false, true_or, or_true, not_true_eq_false, not_false_eq_true, ne_eq, forall_const, true_implies, false_implies, implies_true] at er1 har1 ⊢) <;> omega))
    exact W.vret hx hb hr (fun t ht hW => ⟨⟨u2, rfl, ⟨hu, hp, hkf, (show ((u2.2.2.1 h0 12).toInt = 0 → (u0.2.2.1 h0 12).toInt = 0) from by (try simp only [i_lt, i_le, i_eq, Int32.toInt_toInt64, Int32.reduceToInt, Int64.reduceToInt, true_and, and_true, false_and, and_false, false_or, or_false, true_or, or_true, not_true_eq_false, not_false_eq_true, ne_eq, forall_const, true_implies, false_implies, implies_true] at er1 har1 ⊢) <;> omega)⟩, by rw [ht]; exact hP, hD⟩, hS.F ht⟩) hS.2.2 dX12_needsWord_13
set_option maxHeartbeats 4000000 in
set_option maxRecDepth 100000 in
theorem t_X12_told (l : Launch) (D : va_G) (k : Nat → ClassId) (tt : TT) (u0 : PSt) (hu : WT u0) (h0 : Nat) (m_h0 : h0 ∈ u0.1) (k_h0 : u0.2.1 h0 = 12) (w1 : Nat) (hw_w1 : w1 < nTX) (p2 : Int32) (p3 : Int32) (sz : Nat) : Met l yX12_told wsX12_told ({ frames := 7, cells := 0, slots := 0, locals := 151 }) (PreT D k tt sz (PW k u0) [.ref h0, .ref (tt.1 w1), .int p2, .int p3]) (va_Qi (fun r v => WT v ∧ PX u0 v ∧ KF u0 v ∧ (((v.2.2.1 h0 12).toInt = 0 → ((u0.2.2.1 h0 12).toInt = 0 ∧ p2.toInt ≤ r.toInt ∧ r.toInt ≤ p3.toInt)) ∧ (r.toInt = 0 ∨ (p2.toInt ≤ r.toInt ∧ r.toInt ≤ p3.toInt)))) (WB D (va_A (PW k u0) sz) (PW k)) (va_A (PW k u0) sz)) 0 0 (va_A (PW k u0) sz) := by
  refine Met.ofW (cc := cX12_told) (maxL := 4) (ret := (some .int)) (by decide) rfl ?_
  intro p e s m args below meth c s₁ B hml hv
  obtain ⟨rfl, hsz, hP, hK, hD0, hN, hE0⟩ := hv
  have hx := B.exec
  have hb := B.bytes
  have hr := B.returns
  have hts := atoms_spec (ws := wsX12_told) B.pre
  have hown : s.vm.findClass RX12 = some m.cls := findClass_of_methodNamed B.named
  have hlocks := B.notSynchronized
  have m0_h0 := m_h0
  have k0_h0 := k_h0
  subst hsz
  have hD := hD0.self (sz := s.heap.size)
  have hE := hE0
  generalize hAe : va_A (PW k u0) s.heap.size = A at hD hE ⊢
  have hA : ∀ q : Nat, s.heap.size ≤ q → A q := fun q h => by rw [← hAe]; exact Or.inr h
  have hS : va_S A s.heap s.heap [] := va_S.rf
  have hp : PX u0 u0 := PX.rf
  have hkf : KF u0 u0 := KF.rf
  have hl := lv_entry ([.ref h0, .ref (tt.1 w1), .int p2, .int p3]) (n := 4) (Nat.le_of_ble_eq_true rfl)
  rw [lg_entry_eq]
  generalize (lg_sl ([.ref h0, .ref (tt.1 w1), .int p2, .int p3]) ++ List.replicate (4 - (lg_sl ([.ref h0, .ref (tt.1 w1), .int p2, .int p3])).length) Slot.unset).toArray = ls at hl ⊢
  have hl : lv_has ls 4 [(0, .ref h0), (1, .ref (tt.1 w1)), (2, .int p2), (3, .int p3)] := hl
  refine lv_aload_n hx hb dX12_told_0 rfl (lv_at hl 0 rfl) ?_
  refine lv_aload_n hx hb dX12_told_1 rfl (lv_at hl 1 rfl) ?_
  refine xvV (C := RX12) (As := [.ref (tt.1 w1)]) (rest := []) ⟨hx, hb, hml, hown, hts⟩ (fun sz => t_X12_needsWord l D k tt u0 hu h0 m_h0 k_h0 w1 hw_w1 sz) (cwV 1 hts gX12_told_X12_needsWord rfl rfl rfl (by decide +kernel) ⟨Nat.le_of_ble_eq_true rfl, Nat.le_of_ble_eq_true rfl⟩) hP hK hD hN hE hS hA (precv hK hP m_h0 (cF12 k_h0) rfl) rfl hl.1 rfl (Nat.le_of_ble_eq_true rfl) dX12_told_2 ⟨Nat.le_of_ble_eq_true rfl, Nat.le_of_ble_eq_true rfl⟩ (fun u2 H locs hqu2 hP hD hS => ?_)
  obtain ⟨hu, hxu2, z3, hr1⟩ := hqu2
  have hkf := KF.trans hkf hp z3
  have hp := PX.trans hp hxu2
  refine lv_aload_n hx hb dX12_told_5 rfl (lv_at hl 0 rfl) ?_
  refine lv_iload_n hx hb dX12_told_6 rfl (lv_at hl 2 rfl) ?_
  refine lv_iload_n hx hb dX12_told_7 rfl (lv_at hl 3 rfl) ?_
  have k_h0 : u2.2.1 h0 = 12 := (hp h0 m0_h0).2.1.trans k0_h0
  have m_h0 : h0 ∈ u2.1 := (hp h0 m0_h0).1
  refine wiV (C := RX12) (As := [.int p2, .int p3]) (rest := []) ⟨hx, hb, hml, hown, hts⟩ (fun sz => t_X12_number l D k u2 hu h0 m_h0 k_h0 p2 p3 sz) (cwV 2 hts gX12_told_X12_number rfl rfl rfl (by decide +kernel) ⟨Nat.le_of_ble_eq_true rfl, Nat.le_of_ble_eq_true rfl⟩) hP hK hD hN hS hA (precv hK hP m_h0 (cF12 k_h0) rfl) rfl hl.1 rfl (Nat.le_of_ble_eq_true rfl) dX12_told_8 ⟨Nat.le_of_ble_eq_true rfl, Nat.le_of_ble_eq_true rfl⟩ (fun r4 u5 H locs hqu5 hP hD hS => ?_)
  obtain ⟨hu, hxu5, z6, hr4⟩ := hqu5
  have hkf := KF.trans hkf hp z6
  have hp := PX.trans hp hxu5
  exact W.iret (v := r4) hx hb hr (fun t ht hW => ⟨⟨r4, u5, rfl, ⟨hu, hp, hkf, (show ((u5.2.2.1 h0 12).toInt = 0 → ((u0.2.2.1 h0 12).toInt = 0 ∧ p2.toInt ≤ r4.toInt ∧ r4.toInt ≤ p3.toInt)) ∧ (r4.toInt = 0 ∨ (p2.toInt ≤ r4.toInt ∧ r4.toInt ≤ p3.toInt)) from by (try simp only [i_lt, i_le, i_eq, Int32.toInt_toInt64, Int32.reduceToInt, Int64.reduceToInt, true_and, and_true, false_and, and_false, false_or, or_false, true_or, or_true, not_true_eq_false, not_false_eq_true, ne_eq, forall_const, true_implies, false_implies, implies_true] at hr1 hr4 ⊢) <;> omega)⟩, by rw [ht]; exact hP, hD⟩, hS.F ht⟩) hS.2.2 dX12_told_11
set_option maxHeartbeats 4000000 in
set_option maxRecDepth 100000 in
theorem t_X12_moveHere (l : Launch) (D : va_G) (k : Nat → ClassId) (tt : TT) (u0 : PSt) (hu : WT u0) (h0 : Nat) (m_h0 : h0 ∈ u0.1) (k_h0 : u0.2.1 h0 = 12) (sz : Nat) : Met l yX12_moveHere wsX12_moveHere ({ frames := 5, cells := 0, slots := 0, locals := 108 }) (PreT D k tt sz (PW k u0) [.ref h0]) (va_Qi (fun r v => WT v ∧ PX u0 v ∧ (v = u0 ∧ (r.toInt = -1 ∨ (0 ≤ r.toInt ∧ r.toInt ≤ 2 ∧ (u0.2.2.1 h0 12).toInt = 0 ∧ (u0.2.2.1 h0 9).toInt < (u0.2.2.1 h0 8).toInt ∧ (u0.2.2.1 h0 8).toInt ≤ 1600)))) (WB D (va_A (PW k u0) sz) (PW k)) (va_A (PW k u0) sz)) 0 0 (va_A (PW k u0) sz) := by
  refine Met.ofW (cc := cX12_moveHere) (maxL := 1) (ret := (some .int)) (by decide) rfl ?_
  intro p e s m args below meth c s₁ B hml hv
  obtain ⟨rfl, hsz, hP, hK, hD0, hN, hE0⟩ := hv
  have hx := B.exec
  have hb := B.bytes
  have hr := B.returns
  have hts := atoms_spec (ws := wsX12_moveHere) B.pre
  have hown : s.vm.findClass RX12 = some m.cls := findClass_of_methodNamed B.named
  have hlocks := B.notSynchronized
  have m0_h0 := m_h0
  have k0_h0 := k_h0
  subst hsz
  have hD := hD0.self (sz := s.heap.size)
  have hE := hE0
  generalize hAe : va_A (PW k u0) s.heap.size = A at hD hE ⊢
  have hA : ∀ q : Nat, s.heap.size ≤ q → A q := fun q h => by rw [← hAe]; exact Or.inr h
  have hS : va_S A s.heap s.heap [] := va_S.rf
  have hp : PX u0 u0 := PX.rf
  have hl := lv_entry ([.ref h0]) (n := 1) (Nat.le_of_ble_eq_true rfl)
  rw [lg_entry_eq]
  generalize (lg_sl ([.ref h0]) ++ List.replicate (1 - (lg_sl ([.ref h0])).length) Slot.unset).toArray = ls at hl ⊢
  have hl : lv_has ls 1 [(0, .ref h0)] := hl
  refine lv_aload_n hx hb dX12_moveHere_0 rfl (lv_at hl 0 rfl) ?_
  refine va_ldcS (own := RX12) (tx := "right") (q := tt.1 37) hx hb hown (hE.2.1 (RX12, 157, "right", 37) (by decide +kernel)) dX12_moveHere_1 ?_
  refine xiV (C := RX12) (As := [.ref (tt.1 37)]) (rest := []) ⟨hx, hb, hml, hown, hts⟩ (fun sz => t_X12_is l D k tt u0 hu h0 m_h0 k_h0 37 (by decide) sz) (cwV 1 hts gX12_moveHere_X12_is rfl rfl rfl (by decide +kernel) ⟨Nat.le_of_ble_eq_true rfl, Nat.le_of_ble_eq_true rfl⟩) hP hK hD hN hE hS hA (precv hK hP m_h0 (cF12 k_h0) rfl) rfl hl.1 rfl (Nat.le_of_ble_eq_true rfl) dX12_moveHere_3 ⟨Nat.le_of_ble_eq_true rfl, Nat.le_of_ble_eq_true rfl⟩ (fun r1 u2 H locs hqu2 hP hD hS => ?_)
  obtain ⟨hu, hxu2, hr1⟩ := hqu2
  have sameu2 : u0 = u2 := hr1.1.symm
  subst sameu2
  have hr1 := hr1.2
  rcases hr1 with ⟨er1, hnr1⟩ | ⟨er1, hir1, har1⟩
  · refine lv_if_eq (tgt := 13) hx hb dX12_moveHere_6 (by decide) (fun _ => ?_) (fun h => absurd (by (try simp only [i_lt, i_le, i_eq, Int32.toInt_toInt64, Int32.reduceToInt, Int64.reduceToInt, true_and, and_true, false_and, and_false, false_or, or_false, true_or, or_true, not_true_eq_false, not_false_eq_true, ne_eq, forall_const, true_implies, false_implies, implies_true] at er1 ⊢) <;> omega) h)
    refine lv_aload_n hx hb dX12_moveHere_13 rfl (lv_at hl 0 rfl) ?_
    refine va_ldcS (own := RX12) (tx := "up") (q := tt.1 38) hx hb hown (hE.2.1 (RX12, 159, "up", 38) (by decide +kernel)) dX12_moveHere_14 ?_
    refine xiV (C := RX12) (As := [.ref (tt.1 38)]) (rest := []) ⟨hx, hb, hml, hown, hts⟩ (fun sz => t_X12_is l D k tt u0 hu h0 m_h0 k_h0 38 (by decide) sz) (cwV 1 hts gX12_moveHere_X12_is rfl rfl rfl (by decide +kernel) ⟨Nat.le_of_ble_eq_true rfl, Nat.le_of_ble_eq_true rfl⟩) hP hK hD hN hE hS hA (precv hK hP m_h0 (cF12 k_h0) rfl) rfl hl.1 rfl (Nat.le_of_ble_eq_true rfl) dX12_moveHere_16 ⟨Nat.le_of_ble_eq_true rfl, Nat.le_of_ble_eq_true rfl⟩ (fun r3 u4 H locs hqu4 hP hD hS => ?_)
    obtain ⟨hu, hxu4, hr3⟩ := hqu4
    have sameu4 : u0 = u4 := hr3.1.symm
    subst sameu4
    have hr3 := hr3.2
    rcases hr3 with ⟨er3, hnr3⟩ | ⟨er3, hir3, har3⟩
    · refine lv_if_eq (tgt := 26) hx hb dX12_moveHere_19 (by decide) (fun _ => ?_) (fun h => absurd (by (try simp only [i_lt, i_le, i_eq, Int32.toInt_toInt64, Int32.reduceToInt, Int64.reduceToInt, true_and, and_true, false_and, and_false, false_or, or_false, true_or, or_true, not_true_eq_false, not_false_eq_true, ne_eq, forall_const, true_implies, false_implies, implies_true] at er1 er3 ⊢) <;> omega) h)
      refine lv_aload_n hx hb dX12_moveHere_26 rfl (lv_at hl 0 rfl) ?_
      refine va_ldcS (own := RX12) (tx := "down") (q := tt.1 39) hx hb hown (hE.2.1 (RX12, 161, "down", 39) (by decide +kernel)) dX12_moveHere_27 ?_
      refine xiV (C := RX12) (As := [.ref (tt.1 39)]) (rest := []) ⟨hx, hb, hml, hown, hts⟩ (fun sz => t_X12_is l D k tt u0 hu h0 m_h0 k_h0 39 (by decide) sz) (cwV 1 hts gX12_moveHere_X12_is rfl rfl rfl (by decide +kernel) ⟨Nat.le_of_ble_eq_true rfl, Nat.le_of_ble_eq_true rfl⟩) hP hK hD hN hE hS hA (precv hK hP m_h0 (cF12 k_h0) rfl) rfl hl.1 rfl (Nat.le_of_ble_eq_true rfl) dX12_moveHere_29 ⟨Nat.le_of_ble_eq_true rfl, Nat.le_of_ble_eq_true rfl⟩ (fun r5 u6 H locs hqu6 hP hD hS => ?_)
      obtain ⟨hu, hxu6, hr5⟩ := hqu6
      have sameu6 : u0 = u6 := hr5.1.symm
      subst sameu6
      have hr5 := hr5.2
      rcases hr5 with ⟨er5, hnr5⟩ | ⟨er5, hir5, har5⟩
      · refine lv_if_eq (tgt := 39) hx hb dX12_moveHere_32 (by decide) (fun _ => ?_) (fun h => absurd (by (try simp only [i_lt, i_le, i_eq, Int32.toInt_toInt64, Int32.reduceToInt, Int64.reduceToInt, true_and, and_true, false_and, and_false, false_or, or_false, true_or, or_true, not_true_eq_false, not_false_eq_true, ne_eq, forall_const, true_implies, false_implies, implies_true] at er1 er3 er5 ⊢) <;> omega) h)
        refine lv_iconst (v := (-1)) hx hb dX12_moveHere_39 (by decide) ?_
        exact W.iret (v := (-1)) hx hb hr (fun t ht hW => ⟨⟨(-1), u0, rfl, ⟨hu, hp, ⟨rfl, (show (-1 : Int) = -1 ∨ (0 ≤ (-1 : Int) ∧ (-1 : Int) ≤ 2 ∧ (u0.2.2.1 h0 12).toInt = 0 ∧ (u0.2.2.1 h0 9).toInt < (u0.2.2.1 h0 8).toInt ∧ (u0.2.2.1 h0 8).toInt ≤ 1600) from by (try simp only [i_lt, i_le, i_eq, Int32.toInt_toInt64, Int32.reduceToInt, Int64.reduceToInt, true_and, and_true, false_and, and_false, false_or, or_false, true_or, or_true, not_true_eq_false, not_false_eq_true, ne_eq, forall_const, true_implies, false_implies, implies_true] at er1 er3 er5 ⊢) <;> omega)⟩⟩, by rw [ht]; exact hP, hD⟩, hS.F ht⟩) hS.2.2 dX12_moveHere_40
      · refine lv_if_eq (tgt := 39) hx hb dX12_moveHere_32 (by decide) (fun h => absurd h (by (try simp only [i_lt, i_le, i_eq, Int32.toInt_toInt64, Int32.reduceToInt, Int64.reduceToInt, true_and, and_true, false_and, and_false, false_or, or_false, true_or, or_true, not_true_eq_false, not_false_eq_true, ne_eq, forall_const, true_implies, false_implies, implies_true] at er1 er3 er5 har5 ⊢) <;> omega)) (fun _ => ?_)
        refine lv_iconst (v := 2) hx hb dX12_moveHere_35 (by decide) ?_
        refine lv_goto (tgt := 40) hx hb dX12_moveHere_36 (by decide) ?_
        exact W.iret (v := 2) hx hb hr (fun t ht hW => ⟨⟨2, u0, rfl, ⟨hu, hp, ⟨rfl, (show (2 : Int) = -1 ∨ (0 ≤ (2 : Int) ∧ (2 : Int) ≤ 2 ∧ (u0.2.2.1 h0 12).toInt = 0 ∧ (u0.2.2.1 h0 9).toInt < (u0.2.2.1 h0 8).toInt ∧ (u0.2.2.1 h0 8).toInt ≤ 1600) from by (try simp only [i_lt, i_le, i_eq, Int32.toInt_toInt64, Int32.reduceToInt, Int64.reduceToInt, true_and, and_true, false_and, and_false, false_or, or_false, true_or, or_true, not_true_eq_false, not_false_eq_true, ne_eq, forall_const, true_implies, false_implies, implies_true] at er1 er3 er5 har5 ⊢) <;> omega)⟩⟩, by rw [ht]; exact hP, hD⟩, hS.F ht⟩) hS.2.2 dX12_moveHere_40
    · refine lv_if_eq (tgt := 26) hx hb dX12_moveHere_19 (by decide) (fun h => absurd h (by (try simp only [i_lt, i_le, i_eq, Int32.toInt_toInt64, Int32.reduceToInt, Int64.reduceToInt, true_and, and_true, false_and, and_false, false_or, or_false, true_or, or_true, not_true_eq_false, not_false_eq_true, ne_eq, forall_const, true_implies, false_implies, implies_true] at er1 er3 har3 ⊢) <;> omega)) (fun _ => ?_)
      refine lv_iconst (v := 1) hx hb dX12_moveHere_22 (by decide) ?_
      refine lv_goto (tgt := 40) hx hb dX12_moveHere_23 (by decide) ?_
      exact W.iret (v := 1) hx hb hr (fun t ht hW => ⟨⟨1, u0, rfl, ⟨hu, hp, ⟨rfl, (show (1 : Int) = -1 ∨ (0 ≤ (1 : Int) ∧ (1 : Int) ≤ 2 ∧ (u0.2.2.1 h0 12).toInt = 0 ∧ (u0.2.2.1 h0 9).toInt < (u0.2.2.1 h0 8).toInt ∧ (u0.2.2.1 h0 8).toInt ≤ 1600) from by (try simp only [i_lt, i_le, i_eq, Int32.toInt_toInt64, Int32.reduceToInt, Int64.reduceToInt, true_and, and_true, false_and, and_false, false_or, or_false, true_or, or_true, not_true_eq_false, not_false_eq_true, ne_eq, forall_const, true_implies, false_implies, implies_true] at er1 er3 har3 ⊢) <;> omega)⟩⟩, by rw [ht]; exact hP, hD⟩, hS.F ht⟩) hS.2.2 dX12_moveHere_40
  · refine lv_if_eq (tgt := 13) hx hb dX12_moveHere_6 (by decide) (fun h => absurd h (by (try simp only [i_lt, i_le, i_eq, Int32.toInt_toInt64, Int32.reduceToInt, Int64.reduceToInt, true_and, and_true, false_and, and_false, false_or, or_false, true_or, or_true, not_true_eq_false, not_false_eq_true, ne_eq, forall_const, true_implies, false_implies, implies_true] at er1 har1 ⊢) <;> omega)) (fun _ => ?_)
    refine lv_iconst (v := 0) hx hb dX12_moveHere_9 (by decide) ?_
    refine lv_goto (tgt := 40) hx hb dX12_moveHere_10 (by decide) ?_
    exact W.iret (v := 0) hx hb hr (fun t ht hW => ⟨⟨0, u0, rfl, ⟨hu, hp, ⟨rfl, (show (0 : Int) = -1 ∨ (0 ≤ (0 : Int) ∧ (0 : Int) ≤ 2 ∧ (u0.2.2.1 h0 12).toInt = 0 ∧ (u0.2.2.1 h0 9).toInt < (u0.2.2.1 h0 8).toInt ∧ (u0.2.2.1 h0 8).toInt ≤ 1600) from by (try simp only [i_lt, i_le, i_eq, Int32.toInt_toInt64, Int32.reduceToInt, Int64.reduceToInt, true_and, and_true, false_and, and_false, false_or, or_false, true_or, or_true, not_true_eq_false, not_false_eq_true, ne_eq, forall_const, true_implies, false_implies, implies_true] at er1 har1 ⊢) <;> omega)⟩⟩, by rw [ht]; exact hP, hD⟩, hS.F ht⟩) hS.2.2 dX12_moveHere_40
set_option maxHeartbeats 4000000 in
set_option maxRecDepth 100000 in
theorem t_X12_subjectHere (l : Launch) (D : va_G) (k : Nat → ClassId) (tt : TT) (u0 : PSt) (hu : WT u0) (h0 : Nat) (m_h0 : h0 ∈ u0.1) (k_h0 : u0.2.1 h0 = 12) (sz : Nat) : Met l yX12_subjectHere wsX12_subjectHere ({ frames := 5, cells := 0, slots := 0, locals := 108 }) (PreT D k tt sz (PW k u0) [.ref h0]) (va_Qi (fun r v => WT v ∧ PX u0 v ∧ (v = u0 ∧ (r.toInt = -1 ∨ (0 ≤ r.toInt ∧ r.toInt ≤ 3 ∧ (u0.2.2.1 h0 12).toInt = 0 ∧ (u0.2.2.1 h0 9).toInt < (u0.2.2.1 h0 8).toInt ∧ (u0.2.2.1 h0 8).toInt ≤ 1600)))) (WB D (va_A (PW k u0) sz) (PW k)) (va_A (PW k u0) sz)) 0 0 (va_A (PW k u0) sz) := by
  refine Met.ofW (cc := cX12_subjectHere) (maxL := 1) (ret := (some .int)) (by decide) rfl ?_
  intro p e s m args below meth c s₁ B hml hv
  obtain ⟨rfl, hsz, hP, hK, hD0, hN, hE0⟩ := hv
  have hx := B.exec
  have hb := B.bytes
  have hr := B.returns
  have hts := atoms_spec (ws := wsX12_subjectHere) B.pre
  have hown : s.vm.findClass RX12 = some m.cls := findClass_of_methodNamed B.named
  have hlocks := B.notSynchronized
  have m0_h0 := m_h0
  have k0_h0 := k_h0
  subst hsz
  have hD := hD0.self (sz := s.heap.size)
  have hE := hE0
  generalize hAe : va_A (PW k u0) s.heap.size = A at hD hE ⊢
  have hA : ∀ q : Nat, s.heap.size ≤ q → A q := fun q h => by rw [← hAe]; exact Or.inr h
  have hS : va_S A s.heap s.heap [] := va_S.rf
  have hp : PX u0 u0 := PX.rf
  have hl := lv_entry ([.ref h0]) (n := 1) (Nat.le_of_ble_eq_true rfl)
  rw [lg_entry_eq]
  generalize (lg_sl ([.ref h0]) ++ List.replicate (1 - (lg_sl ([.ref h0])).length) Slot.unset).toArray = ls at hl ⊢
  have hl : lv_has ls 1 [(0, .ref h0)] := hl
  refine lv_aload_n hx hb dX12_subjectHere_0 rfl (lv_at hl 0 rfl) ?_
  refine va_ldcS (own := RX12) (tx := "draw") (q := tt.1 40) hx hb hown (hE.2.1 (RX12, 163, "draw", 40) (by decide +kernel)) dX12_subjectHere_1 ?_
  refine xiV (C := RX12) (As := [.ref (tt.1 40)]) (rest := []) ⟨hx, hb, hml, hown, hts⟩ (fun sz => t_X12_is l D k tt u0 hu h0 m_h0 k_h0 40 (by decide) sz) (cwV 1 hts gX12_subjectHere_X12_is rfl rfl rfl (by decide +kernel) ⟨Nat.le_of_ble_eq_true rfl, Nat.le_of_ble_eq_true rfl⟩) hP hK hD hN hE hS hA (precv hK hP m_h0 (cF12 k_h0) rfl) rfl hl.1 rfl (Nat.le_of_ble_eq_true rfl) dX12_subjectHere_3 ⟨Nat.le_of_ble_eq_true rfl, Nat.le_of_ble_eq_true rfl⟩ (fun r1 u2 H locs hqu2 hP hD hS => ?_)
  obtain ⟨hu, hxu2, hr1⟩ := hqu2
  have sameu2 : u0 = u2 := hr1.1.symm
  subst sameu2
  have hr1 := hr1.2
  rcases hr1 with ⟨er1, hnr1⟩ | ⟨er1, hir1, har1⟩
  · refine lv_if_eq (tgt := 13) hx hb dX12_subjectHere_6 (by decide) (fun _ => ?_) (fun h => absurd (by (try simp only [i_lt, i_le, i_eq, Int32.toInt_toInt64, Int32.reduceToInt, Int64.reduceToInt, true_and, and_true, false_and, and_false, false_or, or_false, true_or, or_true, not_true_eq_false, not_false_eq_true, ne_eq, forall_const, true_implies, false_implies, implies_true] at er1 ⊢) <;> omega) h)
    refine lv_aload_n hx hb dX12_subjectHere_13 rfl (lv_at hl 0 rfl) ?_
    refine va_ldcS (own := RX12) (tx := "push") (q := tt.1 41) hx hb hown (hE.2.1 (RX12, 165, "push", 41) (by decide +kernel)) dX12_subjectHere_14 ?_
    refine xiV (C := RX12) (As := [.ref (tt.1 41)]) (rest := []) ⟨hx, hb, hml, hown, hts⟩ (fun sz => t_X12_is l D k tt u0 hu h0 m_h0 k_h0 41 (by decide) sz) (cwV 1 hts gX12_subjectHere_X12_is rfl rfl rfl (by decide +kernel) ⟨Nat.le_of_ble_eq_true rfl, Nat.le_of_ble_eq_true rfl⟩) hP hK hD hN hE hS hA (precv hK hP m_h0 (cF12 k_h0) rfl) rfl hl.1 rfl (Nat.le_of_ble_eq_true rfl) dX12_subjectHere_16 ⟨Nat.le_of_ble_eq_true rfl, Nat.le_of_ble_eq_true rfl⟩ (fun r3 u4 H locs hqu4 hP hD hS => ?_)
    obtain ⟨hu, hxu4, hr3⟩ := hqu4
    have sameu4 : u0 = u4 := hr3.1.symm
    subst sameu4
    have hr3 := hr3.2
    rcases hr3 with ⟨er3, hnr3⟩ | ⟨er3, hir3, har3⟩
    · refine lv_if_eq (tgt := 26) hx hb dX12_subjectHere_19 (by decide) (fun _ => ?_) (fun h => absurd (by (try simp only [i_lt, i_le, i_eq, Int32.toInt_toInt64, Int32.reduceToInt, Int64.reduceToInt, true_and, and_true, false_and, and_false, false_or, or_false, true_or, or_true, not_true_eq_false, not_false_eq_true, ne_eq, forall_const, true_implies, false_implies, implies_true] at er1 er3 ⊢) <;> omega) h)
      refine lv_aload_n hx hb dX12_subjectHere_26 rfl (lv_at hl 0 rfl) ?_
      refine va_ldcS (own := RX12) (tx := "metal") (q := tt.1 42) hx hb hown (hE.2.1 (RX12, 167, "metal", 42) (by decide +kernel)) dX12_subjectHere_27 ?_
      refine xiV (C := RX12) (As := [.ref (tt.1 42)]) (rest := []) ⟨hx, hb, hml, hown, hts⟩ (fun sz => t_X12_is l D k tt u0 hu h0 m_h0 k_h0 42 (by decide) sz) (cwV 1 hts gX12_subjectHere_X12_is rfl rfl rfl (by decide +kernel) ⟨Nat.le_of_ble_eq_true rfl, Nat.le_of_ble_eq_true rfl⟩) hP hK hD hN hE hS hA (precv hK hP m_h0 (cF12 k_h0) rfl) rfl hl.1 rfl (Nat.le_of_ble_eq_true rfl) dX12_subjectHere_29 ⟨Nat.le_of_ble_eq_true rfl, Nat.le_of_ble_eq_true rfl⟩ (fun r5 u6 H locs hqu6 hP hD hS => ?_)
      obtain ⟨hu, hxu6, hr5⟩ := hqu6
      have sameu6 : u0 = u6 := hr5.1.symm
      subst sameu6
      have hr5 := hr5.2
      rcases hr5 with ⟨er5, hnr5⟩ | ⟨er5, hir5, har5⟩
      · refine lv_if_eq (tgt := 39) hx hb dX12_subjectHere_32 (by decide) (fun _ => ?_) (fun h => absurd (by (try simp only [i_lt, i_le, i_eq, Int32.toInt_toInt64, Int32.reduceToInt, Int64.reduceToInt, true_and, and_true, false_and, and_false, false_or, or_false, true_or, or_true, not_true_eq_false, not_false_eq_true, ne_eq, forall_const, true_implies, false_implies, implies_true] at er1 er3 er5 ⊢) <;> omega) h)
        refine lv_aload_n hx hb dX12_subjectHere_39 rfl (lv_at hl 0 rfl) ?_
        refine va_ldcS (own := RX12) (tx := "gas") (q := tt.1 43) hx hb hown (hE.2.1 (RX12, 169, "gas", 43) (by decide +kernel)) dX12_subjectHere_40 ?_
        refine xiV (C := RX12) (As := [.ref (tt.1 43)]) (rest := []) ⟨hx, hb, hml, hown, hts⟩ (fun sz => t_X12_is l D k tt u0 hu h0 m_h0 k_h0 43 (by decide) sz) (cwV 1 hts gX12_subjectHere_X12_is rfl rfl rfl (by decide +kernel) ⟨Nat.le_of_ble_eq_true rfl, Nat.le_of_ble_eq_true rfl⟩) hP hK hD hN hE hS hA (precv hK hP m_h0 (cF12 k_h0) rfl) rfl hl.1 rfl (Nat.le_of_ble_eq_true rfl) dX12_subjectHere_42 ⟨Nat.le_of_ble_eq_true rfl, Nat.le_of_ble_eq_true rfl⟩ (fun r7 u8 H locs hqu8 hP hD hS => ?_)
        obtain ⟨hu, hxu8, hr7⟩ := hqu8
        have sameu8 : u0 = u8 := hr7.1.symm
        subst sameu8
        have hr7 := hr7.2
        rcases hr7 with ⟨er7, hnr7⟩ | ⟨er7, hir7, har7⟩
        · refine lv_if_eq (tgt := 52) hx hb dX12_subjectHere_45 (by decide) (fun _ => ?_) (fun h => absurd (by (try simp only [i_lt, i_le, i_eq, Int32.toInt_toInt64, Int32.reduceToInt, Int64.reduceToInt, true_and, and_true, false_and, and_false, false_or, or_false, true_or, or_true, not_true_eq_false, not_false_eq_true, ne_eq, forall_const, true_implies, false_implies, implies_true] at er1 er3 er5 er7 ⊢) <;> omega) h)
          refine lv_iconst (v := (-1)) hx hb dX12_subjectHere_52 (by decide) ?_
          exact W.iret (v := (-1)) hx hb hr (fun t ht hW => ⟨⟨(-1), u0, rfl, ⟨hu, hp, ⟨rfl, (show (-1 : Int) = -1 ∨ (0 ≤ (-1 : Int) ∧ (-1 : Int) ≤ 3 ∧ (u0.2.2.1 h0 12).toInt = 0 ∧ (u0.2.2.1 h0 9).toInt < (u0.2.2.1 h0 8).toInt ∧ (u0.2.2.1 h0 8).toInt ≤ 1600) from by (try simp only [i_lt, i_le, i_eq, Int32.toInt_toInt64, Int32.reduceToInt, Int64.reduceToInt, true_and, and_true, false_and, and_false, false_or, or_false, true_or, or_true, not_true_eq_false, not_false_eq_true, ne_eq, forall_const, true_implies, false_implies, implies_true] at er1 er3 er5 er7 ⊢) <;> omega)⟩⟩, by rw [ht]; exact hP, hD⟩, hS.F ht⟩) hS.2.2 dX12_subjectHere_53
        · refine lv_if_eq (tgt := 52) hx hb dX12_subjectHere_45 (by decide) (fun h => absurd h (by (try simp only [i_lt, i_le, i_eq, Int32.toInt_toInt64, Int32.reduceToInt, Int64.reduceToInt, true_and, and_true, false_and, and_false, false_or, or_false, true_or, or_true, not_true_eq_false, not_false_eq_true, ne_eq, forall_const, true_implies, false_implies, implies_true] at er1 er3 er5 er7 har7 ⊢) <;> omega)) (fun _ => ?_)
          refine lv_iconst (v := 3) hx hb dX12_subjectHere_48 (by decide) ?_
          refine lv_goto (tgt := 53) hx hb dX12_subjectHere_49 (by decide) ?_
          exact W.iret (v := 3) hx hb hr (fun t ht hW => ⟨⟨3, u0, rfl, ⟨hu, hp, ⟨rfl, (show (3 : Int) = -1 ∨ (0 ≤ (3 : Int) ∧ (3 : Int) ≤ 3 ∧ (u0.2.2.1 h0 12).toInt = 0 ∧ (u0.2.2.1 h0 9).toInt < (u0.2.2.1 h0 8).toInt ∧ (u0.2.2.1 h0 8).toInt ≤ 1600) from by (try simp only [i_lt, i_le, i_eq, Int32.toInt_toInt64, Int32.reduceToInt, Int64.reduceToInt, true_and, and_true, false_and, and_false, false_or, or_false, true_or, or_true, not_true_eq_false, not_false_eq_true, ne_eq, forall_const, true_implies, false_implies, implies_true] at er1 er3 er5 er7 har7 ⊢) <;> omega)⟩⟩, by rw [ht]; exact hP, hD⟩, hS.F ht⟩) hS.2.2 dX12_subjectHere_53
      · refine lv_if_eq (tgt := 39) hx hb dX12_subjectHere_32 (by decide) (fun h => absurd h (by (try simp only [i_lt, i_le, i_eq, Int32.toInt_toInt64, Int32.reduceToInt, Int64.reduceToInt, true_and, and_true, false_and, and_false, false_or, or_false, true_or, or_true, not_true_eq_false, not_false_eq_true, ne_eq, forall_const, true_implies, false_implies, implies_true] at er1 er3 er5 har5 ⊢) <;> omega)) (fun _ => ?_)
        refine lv_iconst (v := 2) hx hb dX12_subjectHere_35 (by decide) ?_
        refine lv_goto (tgt := 53) hx hb dX12_subjectHere_36 (by decide) ?_
        exact W.iret (v := 2) hx hb hr (fun t ht hW => ⟨⟨2, u0, rfl, ⟨hu, hp, ⟨rfl, (show (2 : Int) = -1 ∨ (0 ≤ (2 : Int) ∧ (2 : Int) ≤ 3 ∧ (u0.2.2.1 h0 12).toInt = 0 ∧ (u0.2.2.1 h0 9).toInt < (u0.2.2.1 h0 8).toInt ∧ (u0.2.2.1 h0 8).toInt ≤ 1600) from by (try simp only [i_lt, i_le, i_eq, Int32.toInt_toInt64, Int32.reduceToInt, Int64.reduceToInt, true_and, and_true, false_and, and_false, false_or, or_false, true_or, or_true, not_true_eq_false, not_false_eq_true, ne_eq, forall_const, true_implies, false_implies, implies_true] at er1 er3 er5 har5 ⊢) <;> omega)⟩⟩, by rw [ht]; exact hP, hD⟩, hS.F ht⟩) hS.2.2 dX12_subjectHere_53
    · refine lv_if_eq (tgt := 26) hx hb dX12_subjectHere_19 (by decide) (fun h => absurd h (by (try simp only [i_lt, i_le, i_eq, Int32.toInt_toInt64, Int32.reduceToInt, Int64.reduceToInt, true_and, and_true, false_and, and_false, false_or, or_false, true_or, or_true, not_true_eq_false, not_false_eq_true, ne_eq, forall_const, true_implies, false_implies, implies_true] at er1 er3 har3 ⊢) <;> omega)) (fun _ => ?_)
      refine lv_iconst (v := 1) hx hb dX12_subjectHere_22 (by decide) ?_
      refine lv_goto (tgt := 53) hx hb dX12_subjectHere_23 (by decide) ?_
      exact W.iret (v := 1) hx hb hr (fun t ht hW => ⟨⟨1, u0, rfl, ⟨hu, hp, ⟨rfl, (show (1 : Int) = -1 ∨ (0 ≤ (1 : Int) ∧ (1 : Int) ≤ 3 ∧ (u0.2.2.1 h0 12).toInt = 0 ∧ (u0.2.2.1 h0 9).toInt < (u0.2.2.1 h0 8).toInt ∧ (u0.2.2.1 h0 8).toInt ≤ 1600) from by (try simp only [i_lt, i_le, i_eq, Int32.toInt_toInt64, Int32.reduceToInt, Int64.reduceToInt, true_and, and_true, false_and, and_false, false_or, or_false, true_or, or_true, not_true_eq_false, not_false_eq_true, ne_eq, forall_const, true_implies, false_implies, implies_true] at er1 er3 har3 ⊢) <;> omega)⟩⟩, by rw [ht]; exact hP, hD⟩, hS.F ht⟩) hS.2.2 dX12_subjectHere_53
  · refine lv_if_eq (tgt := 13) hx hb dX12_subjectHere_6 (by decide) (fun h => absurd h (by (try simp only [i_lt, i_le, i_eq, Int32.toInt_toInt64, Int32.reduceToInt, Int64.reduceToInt, true_and, and_true, false_and, and_false, false_or, or_false, true_or, or_true, not_true_eq_false, not_false_eq_true, ne_eq, forall_const, true_implies, false_implies, implies_true] at er1 har1 ⊢) <;> omega)) (fun _ => ?_)
    refine lv_iconst (v := 0) hx hb dX12_subjectHere_9 (by decide) ?_
    refine lv_goto (tgt := 53) hx hb dX12_subjectHere_10 (by decide) ?_
    exact W.iret (v := 0) hx hb hr (fun t ht hW => ⟨⟨0, u0, rfl, ⟨hu, hp, ⟨rfl, (show (0 : Int) = -1 ∨ (0 ≤ (0 : Int) ∧ (0 : Int) ≤ 3 ∧ (u0.2.2.1 h0 12).toInt = 0 ∧ (u0.2.2.1 h0 9).toInt < (u0.2.2.1 h0 8).toInt ∧ (u0.2.2.1 h0 8).toInt ≤ 1600) from by (try simp only [i_lt, i_le, i_eq, Int32.toInt_toInt64, Int32.reduceToInt, Int64.reduceToInt, true_and, and_true, false_and, and_false, false_or, or_false, true_or, or_true, not_true_eq_false, not_false_eq_true, ne_eq, forall_const, true_implies, false_implies, implies_true] at er1 har1 ⊢) <;> omega)⟩⟩, by rw [ht]; exact hP, hD⟩, hS.F ht⟩) hS.2.2 dX12_subjectHere_53
set_option maxHeartbeats 4000000 in
set_option maxRecDepth 100000 in
theorem t_X12_kindHere (l : Launch) (D : va_G) (k : Nat → ClassId) (tt : TT) (u0 : PSt) (hu : WT u0) (h0 : Nat) (m_h0 : h0 ∈ u0.1) (k_h0 : u0.2.1 h0 = 12) (sz : Nat) : Met l yX12_kindHere wsX12_kindHere ({ frames := 5, cells := 0, slots := 0, locals := 108 }) (PreT D k tt sz (PW k u0) [.ref h0]) (va_Qi (fun r v => WT v ∧ PX u0 v ∧ (v = u0 ∧ (r.toInt = -1 ∨ (0 ≤ r.toInt ∧ r.toInt ≤ 3 ∧ (u0.2.2.1 h0 12).toInt = 0 ∧ (u0.2.2.1 h0 9).toInt < (u0.2.2.1 h0 8).toInt ∧ (u0.2.2.1 h0 8).toInt ≤ 1600)))) (WB D (va_A (PW k u0) sz) (PW k)) (va_A (PW k u0) sz)) 0 0 (va_A (PW k u0) sz) := by
  refine Met.ofW (cc := cX12_kindHere) (maxL := 1) (ret := (some .int)) (by decide) rfl ?_
  intro p e s m args below meth c s₁ B hml hv
  obtain ⟨rfl, hsz, hP, hK, hD0, hN, hE0⟩ := hv
  have hx := B.exec
  have hb := B.bytes
  have hr := B.returns
  have hts := atoms_spec (ws := wsX12_kindHere) B.pre
  have hown : s.vm.findClass RX12 = some m.cls := findClass_of_methodNamed B.named
  have hlocks := B.notSynchronized
  have m0_h0 := m_h0
  have k0_h0 := k_h0
  subst hsz
  have hD := hD0.self (sz := s.heap.size)
  have hE := hE0
  generalize hAe : va_A (PW k u0) s.heap.size = A at hD hE ⊢
  have hA : ∀ q : Nat, s.heap.size ≤ q → A q := fun q h => by rw [← hAe]; exact Or.inr h
  have hS : va_S A s.heap s.heap [] := va_S.rf
  have hp : PX u0 u0 := PX.rf
  have hl := lv_entry ([.ref h0]) (n := 1) (Nat.le_of_ble_eq_true rfl)
  rw [lg_entry_eq]
  generalize (lg_sl ([.ref h0]) ++ List.replicate (1 - (lg_sl ([.ref h0])).length) Slot.unset).toArray = ls at hl ⊢
  have hl : lv_has ls 1 [(0, .ref h0)] := hl
  refine lv_aload_n hx hb dX12_kindHere_0 rfl (lv_at hl 0 rfl) ?_
  refine va_ldcS (own := RX12) (tx := "pot") (q := tt.1 44) hx hb hown (hE.2.1 (RX12, 171, "pot", 44) (by decide +kernel)) dX12_kindHere_1 ?_
  refine xiV (C := RX12) (As := [.ref (tt.1 44)]) (rest := []) ⟨hx, hb, hml, hown, hts⟩ (fun sz => t_X12_is l D k tt u0 hu h0 m_h0 k_h0 44 (by decide) sz) (cwV 1 hts gX12_kindHere_X12_is rfl rfl rfl (by decide +kernel) ⟨Nat.le_of_ble_eq_true rfl, Nat.le_of_ble_eq_true rfl⟩) hP hK hD hN hE hS hA (precv hK hP m_h0 (cF12 k_h0) rfl) rfl hl.1 rfl (Nat.le_of_ble_eq_true rfl) dX12_kindHere_3 ⟨Nat.le_of_ble_eq_true rfl, Nat.le_of_ble_eq_true rfl⟩ (fun r1 u2 H locs hqu2 hP hD hS => ?_)
  obtain ⟨hu, hxu2, hr1⟩ := hqu2
  have sameu2 : u0 = u2 := hr1.1.symm
  subst sameu2
  have hr1 := hr1.2
  rcases hr1 with ⟨er1, hnr1⟩ | ⟨er1, hir1, har1⟩
  · refine lv_if_eq (tgt := 13) hx hb dX12_kindHere_6 (by decide) (fun _ => ?_) (fun h => absurd (by (try simp only [i_lt, i_le, i_eq, Int32.toInt_toInt64, Int32.reduceToInt, Int64.reduceToInt, true_and, and_true, false_and, and_false, false_or, or_false, true_or, or_true, not_true_eq_false, not_false_eq_true, ne_eq, forall_const, true_implies, false_implies, implies_true] at er1 ⊢) <;> omega) h)
    refine lv_aload_n hx hb dX12_kindHere_13 rfl (lv_at hl 0 rfl) ?_
    refine va_ldcS (own := RX12) (tx := "pipe") (q := tt.1 45) hx hb hown (hE.2.1 (RX12, 173, "pipe", 45) (by decide +kernel)) dX12_kindHere_14 ?_
    refine xiV (C := RX12) (As := [.ref (tt.1 45)]) (rest := []) ⟨hx, hb, hml, hown, hts⟩ (fun sz => t_X12_is l D k tt u0 hu h0 m_h0 k_h0 45 (by decide) sz) (cwV 1 hts gX12_kindHere_X12_is rfl rfl rfl (by decide +kernel) ⟨Nat.le_of_ble_eq_true rfl, Nat.le_of_ble_eq_true rfl⟩) hP hK hD hN hE hS hA (precv hK hP m_h0 (cF12 k_h0) rfl) rfl hl.1 rfl (Nat.le_of_ble_eq_true rfl) dX12_kindHere_16 ⟨Nat.le_of_ble_eq_true rfl, Nat.le_of_ble_eq_true rfl⟩ (fun r3 u4 H locs hqu4 hP hD hS => ?_)
    obtain ⟨hu, hxu4, hr3⟩ := hqu4
    have sameu4 : u0 = u4 := hr3.1.symm
    subst sameu4
    have hr3 := hr3.2
    rcases hr3 with ⟨er3, hnr3⟩ | ⟨er3, hir3, har3⟩
    · refine lv_if_eq (tgt := 26) hx hb dX12_kindHere_19 (by decide) (fun _ => ?_) (fun h => absurd (by (try simp only [i_lt, i_le, i_eq, Int32.toInt_toInt64, Int32.reduceToInt, Int64.reduceToInt, true_and, and_true, false_and, and_false, false_or, or_false, true_or, or_true, not_true_eq_false, not_false_eq_true, ne_eq, forall_const, true_implies, false_implies, implies_true] at er1 er3 ⊢) <;> omega) h)
      refine lv_aload_n hx hb dX12_kindHere_26 rfl (lv_at hl 0 rfl) ?_
      refine va_ldcS (own := RX12) (tx := "prop") (q := tt.1 46) hx hb hown (hE.2.1 (RX12, 175, "prop", 46) (by decide +kernel)) dX12_kindHere_27 ?_
      refine xiV (C := RX12) (As := [.ref (tt.1 46)]) (rest := []) ⟨hx, hb, hml, hown, hts⟩ (fun sz => t_X12_is l D k tt u0 hu h0 m_h0 k_h0 46 (by decide) sz) (cwV 1 hts gX12_kindHere_X12_is rfl rfl rfl (by decide +kernel) ⟨Nat.le_of_ble_eq_true rfl, Nat.le_of_ble_eq_true rfl⟩) hP hK hD hN hE hS hA (precv hK hP m_h0 (cF12 k_h0) rfl) rfl hl.1 rfl (Nat.le_of_ble_eq_true rfl) dX12_kindHere_29 ⟨Nat.le_of_ble_eq_true rfl, Nat.le_of_ble_eq_true rfl⟩ (fun r5 u6 H locs hqu6 hP hD hS => ?_)
      obtain ⟨hu, hxu6, hr5⟩ := hqu6
      have sameu6 : u0 = u6 := hr5.1.symm
      subst sameu6
      have hr5 := hr5.2
      rcases hr5 with ⟨er5, hnr5⟩ | ⟨er5, hir5, har5⟩
      · refine lv_if_eq (tgt := 39) hx hb dX12_kindHere_32 (by decide) (fun _ => ?_) (fun h => absurd (by (try simp only [i_lt, i_le, i_eq, Int32.toInt_toInt64, Int32.reduceToInt, Int64.reduceToInt, true_and, and_true, false_and, and_false, false_or, or_false, true_or, or_true, not_true_eq_false, not_false_eq_true, ne_eq, forall_const, true_implies, false_implies, implies_true] at er1 er3 er5 ⊢) <;> omega) h)
        refine lv_aload_n hx hb dX12_kindHere_39 rfl (lv_at hl 0 rfl) ?_
        refine va_ldcS (own := RX12) (tx := "press") (q := tt.1 47) hx hb hown (hE.2.1 (RX12, 177, "press", 47) (by decide +kernel)) dX12_kindHere_40 ?_
        refine xiV (C := RX12) (As := [.ref (tt.1 47)]) (rest := []) ⟨hx, hb, hml, hown, hts⟩ (fun sz => t_X12_is l D k tt u0 hu h0 m_h0 k_h0 47 (by decide) sz) (cwV 1 hts gX12_kindHere_X12_is rfl rfl rfl (by decide +kernel) ⟨Nat.le_of_ble_eq_true rfl, Nat.le_of_ble_eq_true rfl⟩) hP hK hD hN hE hS hA (precv hK hP m_h0 (cF12 k_h0) rfl) rfl hl.1 rfl (Nat.le_of_ble_eq_true rfl) dX12_kindHere_42 ⟨Nat.le_of_ble_eq_true rfl, Nat.le_of_ble_eq_true rfl⟩ (fun r7 u8 H locs hqu8 hP hD hS => ?_)
        obtain ⟨hu, hxu8, hr7⟩ := hqu8
        have sameu8 : u0 = u8 := hr7.1.symm
        subst sameu8
        have hr7 := hr7.2
        rcases hr7 with ⟨er7, hnr7⟩ | ⟨er7, hir7, har7⟩
        · refine lv_if_eq (tgt := 52) hx hb dX12_kindHere_45 (by decide) (fun _ => ?_) (fun h => absurd (by (try simp only [i_lt, i_le, i_eq, Int32.toInt_toInt64, Int32.reduceToInt, Int64.reduceToInt, true_and, and_true, false_and, and_false, false_or, or_false, true_or, or_true, not_true_eq_false, not_false_eq_true, ne_eq, forall_const, true_implies, false_implies, implies_true] at er1 er3 er5 er7 ⊢) <;> omega) h)
          refine lv_iconst (v := (-1)) hx hb dX12_kindHere_52 (by decide) ?_
          exact W.iret (v := (-1)) hx hb hr (fun t ht hW => ⟨⟨(-1), u0, rfl, ⟨hu, hp, ⟨rfl, (show (-1 : Int) = -1 ∨ (0 ≤ (-1 : Int) ∧ (-1 : Int) ≤ 3 ∧ (u0.2.2.1 h0 12).toInt = 0 ∧ (u0.2.2.1 h0 9).toInt < (u0.2.2.1 h0 8).toInt ∧ (u0.2.2.1 h0 8).toInt ≤ 1600) from by (try simp only [i_lt, i_le, i_eq, Int32.toInt_toInt64, Int32.reduceToInt, Int64.reduceToInt, true_and, and_true, false_and, and_false, false_or, or_false, true_or, or_true, not_true_eq_false, not_false_eq_true, ne_eq, forall_const, true_implies, false_implies, implies_true] at er1 er3 er5 er7 ⊢) <;> omega)⟩⟩, by rw [ht]; exact hP, hD⟩, hS.F ht⟩) hS.2.2 dX12_kindHere_53
        · refine lv_if_eq (tgt := 52) hx hb dX12_kindHere_45 (by decide) (fun h => absurd h (by (try simp only [i_lt, i_le, i_eq, Int32.toInt_toInt64, Int32.reduceToInt, Int64.reduceToInt, true_and, and_true, false_and, and_false, false_or, or_false, true_or, or_true, not_true_eq_false, not_false_eq_true, ne_eq, forall_const, true_implies, false_implies, implies_true] at er1 er3 er5 er7 har7 ⊢) <;> omega)) (fun _ => ?_)
          refine lv_iconst (v := 3) hx hb dX12_kindHere_48 (by decide) ?_
          refine lv_goto (tgt := 53) hx hb dX12_kindHere_49 (by decide) ?_
          exact W.iret (v := 3) hx hb hr (fun t ht hW => ⟨⟨3, u0, rfl, ⟨hu, hp, ⟨rfl, (show (3 : Int) = -1 ∨ (0 ≤ (3 : Int) ∧ (3 : Int) ≤ 3 ∧ (u0.2.2.1 h0 12).toInt = 0 ∧ (u0.2.2.1 h0 9).toInt < (u0.2.2.1 h0 8).toInt ∧ (u0.2.2.1 h0 8).toInt ≤ 1600) from by (try simp only [i_lt, i_le, i_eq, Int32.toInt_toInt64, Int32.reduceToInt, Int64.reduceToInt, true_and, and_true, false_and, and_false, false_or, or_false, true_or, or_true, not_true_eq_false, not_false_eq_true, ne_eq, forall_const, true_implies, false_implies, implies_true] at er1 er3 er5 er7 har7 ⊢) <;> omega)⟩⟩, by rw [ht]; exact hP, hD⟩, hS.F ht⟩) hS.2.2 dX12_kindHere_53
      · refine lv_if_eq (tgt := 39) hx hb dX12_kindHere_32 (by decide) (fun h => absurd h (by (try simp only [i_lt, i_le, i_eq, Int32.toInt_toInt64, Int32.reduceToInt, Int64.reduceToInt, true_and, and_true, false_and, and_false, false_or, or_false, true_or, or_true, not_true_eq_false, not_false_eq_true, ne_eq, forall_const, true_implies, false_implies, implies_true] at er1 er3 er5 har5 ⊢) <;> omega)) (fun _ => ?_)
        refine lv_iconst (v := 2) hx hb dX12_kindHere_35 (by decide) ?_
        refine lv_goto (tgt := 53) hx hb dX12_kindHere_36 (by decide) ?_
        exact W.iret (v := 2) hx hb hr (fun t ht hW => ⟨⟨2, u0, rfl, ⟨hu, hp, ⟨rfl, (show (2 : Int) = -1 ∨ (0 ≤ (2 : Int) ∧ (2 : Int) ≤ 3 ∧ (u0.2.2.1 h0 12).toInt = 0 ∧ (u0.2.2.1 h0 9).toInt < (u0.2.2.1 h0 8).toInt ∧ (u0.2.2.1 h0 8).toInt ≤ 1600) from by (try simp only [i_lt, i_le, i_eq, Int32.toInt_toInt64, Int32.reduceToInt, Int64.reduceToInt, true_and, and_true, false_and, and_false, false_or, or_false, true_or, or_true, not_true_eq_false, not_false_eq_true, ne_eq, forall_const, true_implies, false_implies, implies_true] at er1 er3 er5 har5 ⊢) <;> omega)⟩⟩, by rw [ht]; exact hP, hD⟩, hS.F ht⟩) hS.2.2 dX12_kindHere_53
    · refine lv_if_eq (tgt := 26) hx hb dX12_kindHere_19 (by decide) (fun h => absurd h (by (try simp only [i_lt, i_le, i_eq, Int32.toInt_toInt64, Int32.reduceToInt, Int64.reduceToInt, true_and, and_true, false_and, and_false, false_or, or_false, true_or, or_true, not_true_eq_false, not_false_eq_true, ne_eq, forall_const, true_implies, false_implies, implies_true] at er1 er3 har3 ⊢) <;> omega)) (fun _ => ?_)
      refine lv_iconst (v := 1) hx hb dX12_kindHere_22 (by decide) ?_
      refine lv_goto (tgt := 53) hx hb dX12_kindHere_23 (by decide) ?_
      exact W.iret (v := 1) hx hb hr (fun t ht hW => ⟨⟨1, u0, rfl, ⟨hu, hp, ⟨rfl, (show (1 : Int) = -1 ∨ (0 ≤ (1 : Int) ∧ (1 : Int) ≤ 3 ∧ (u0.2.2.1 h0 12).toInt = 0 ∧ (u0.2.2.1 h0 9).toInt < (u0.2.2.1 h0 8).toInt ∧ (u0.2.2.1 h0 8).toInt ≤ 1600) from by (try simp only [i_lt, i_le, i_eq, Int32.toInt_toInt64, Int32.reduceToInt, Int64.reduceToInt, true_and, and_true, false_and, and_false, false_or, or_false, true_or, or_true, not_true_eq_false, not_false_eq_true, ne_eq, forall_const, true_implies, false_implies, implies_true] at er1 er3 har3 ⊢) <;> omega)⟩⟩, by rw [ht]; exact hP, hD⟩, hS.F ht⟩) hS.2.2 dX12_kindHere_53
  · refine lv_if_eq (tgt := 13) hx hb dX12_kindHere_6 (by decide) (fun h => absurd h (by (try simp only [i_lt, i_le, i_eq, Int32.toInt_toInt64, Int32.reduceToInt, Int64.reduceToInt, true_and, and_true, false_and, and_false, false_or, or_false, true_or, or_true, not_true_eq_false, not_false_eq_true, ne_eq, forall_const, true_implies, false_implies, implies_true] at er1 har1 ⊢) <;> omega)) (fun _ => ?_)
    refine lv_iconst (v := 0) hx hb dX12_kindHere_9 (by decide) ?_
    refine lv_goto (tgt := 53) hx hb dX12_kindHere_10 (by decide) ?_
    exact W.iret (v := 0) hx hb hr (fun t ht hW => ⟨⟨0, u0, rfl, ⟨hu, hp, ⟨rfl, (show (0 : Int) = -1 ∨ (0 ≤ (0 : Int) ∧ (0 : Int) ≤ 3 ∧ (u0.2.2.1 h0 12).toInt = 0 ∧ (u0.2.2.1 h0 9).toInt < (u0.2.2.1 h0 8).toInt ∧ (u0.2.2.1 h0 8).toInt ≤ 1600) from by (try simp only [i_lt, i_le, i_eq, Int32.toInt_toInt64, Int32.reduceToInt, Int64.reduceToInt, true_and, and_true, false_and, and_false, false_or, or_false, true_or, or_true, not_true_eq_false, not_false_eq_true, ne_eq, forall_const, true_implies, false_implies, implies_true] at er1 har1 ⊢) <;> omega)⟩⟩, by rw [ht]; exact hP, hD⟩, hS.F ht⟩) hS.2.2 dX12_kindHere_53
set_option maxHeartbeats 4000000 in
set_option maxRecDepth 100000 in
theorem t_X12_subjects (l : Launch) (D : va_G) (k : Nat → ClassId) (tt : TT) (u0 : PSt) (hu : WT u0) (h0 : Nat) (m_h0 : h0 ∈ u0.1) (k_h0 : u0.2.1 h0 = 12) (sz : Nat) : Met l yX12_subjects wsX12_subjects ({ frames := 6, cells := 0, slots := 0, locals := 128 }) (PreT D k tt sz (PW k u0) [.ref h0]) (va_Qi (fun r v => WT v ∧ PX u0 v ∧ KF u0 v ∧ (((v.2.2.1 h0 12).toInt = 0 → (u0.2.2.1 h0 12).toInt = 0))) (WB D (va_A (PW k u0) sz) (PW k)) (va_A (PW k u0) sz)) 0 0 (va_A (PW k u0) sz) := by
  refine Met.ofW (cc := cX12_subjects) (maxL := 3) (ret := (some .int)) (by decide) rfl ?_
  intro p e s m args below meth c s₁ B hml hv
  obtain ⟨rfl, hsz, hP, hK, hD0, hN, hE0⟩ := hv
  have hx := B.exec
  have hb := B.bytes
  have hr := B.returns
  have hts := atoms_spec (ws := wsX12_subjects) B.pre
  have hown : s.vm.findClass RX12 = some m.cls := findClass_of_methodNamed B.named
  have hlocks := B.notSynchronized
  have m0_h0 := m_h0
  have k0_h0 := k_h0
  subst hsz
  have hD := hD0.self (sz := s.heap.size)
  have hE := hE0
  generalize hAe : va_A (PW k u0) s.heap.size = A at hD hE ⊢
  have hA : ∀ q : Nat, s.heap.size ≤ q → A q := fun q h => by rw [← hAe]; exact Or.inr h
  have hS : va_S A s.heap s.heap [] := va_S.rf
  have hp : PX u0 u0 := PX.rf
  have hkf : KF u0 u0 := KF.rf
  have B2 : ∀ (n2 : Nat) (u : PSt) (H : Heap) (locs : List Loc) (ls : Array Slot) (v1 : Int32), WT u → PX u0 u → KF u0 u → va_P D vwCl (PW k u) H → va_D A (PW k u) → va_S A s.heap H locs → (1600 - (u.2.2.1 h0 8).toInt).toNat + 1 ≤ n2 → (((u.2.2.1 h0 12).toInt = 0 → (u0.2.2.1 h0 12).toInt = 0)) → lv_has ls 3 [(0, .ref h0), (1, .int v1)] → W p l e (headSpec wsX12_subjects ({ frames := 6, cells := 0, slots := 0, locals := 128 })).room s m ([.ref h0] : List Value).toArray below meth c H locs 0 0 (MQ below (va_Qi (fun r v => WT v ∧ PX u0 v ∧ KF u0 v ∧ (((v.2.2.1 h0 12).toInt = 0 → (u0.2.2.1 h0 12).toInt = 0))) (WB D A (PW k)) A) ([.ref h0] : List Value).toArray s 0 0 A) (F0 m 2 ls []) := by
    intro n2
    induction n2 with
    | zero =>
      intro u H locs ls v1 hu hp hkf hP hD hS hn2 ex0 hl
      exact absurd hn2 (by omega)
    | succ n2 ih2 =>
      intro u H locs ls v1 hu hp hkf hP hD hS hn2 ex0 hl
      refine lv_aload_n hx hb dX12_subjects_2 rfl (lv_at hl 0 rfl) ?_
      refine lv_aload_n hx hb dX12_subjects_3 rfl (lv_at hl 0 rfl) ?_
      have k_h0 : u.2.1 h0 = 12 := (hp h0 m0_h0).2.1.trans k0_h0
      have m_h0 : h0 ∈ u.1 := (hp h0 m0_h0).1
      refine xiV (C := RX12) (As := []) (rest := [.ref h0]) ⟨hx, hb, hml, hown, hts⟩ (fun sz => t_X12_subjectHere l D k tt u hu h0 m_h0 k_h0  sz) (cwV 0 hts gX12_subjects_X12_subjectHere rfl rfl rfl (by decide +kernel) ⟨Nat.le_of_ble_eq_true rfl, Nat.le_of_ble_eq_true rfl⟩) hP hK hD hN hE hS hA (precv hK hP m_h0 (cF12 k_h0) rfl) rfl hl.1 rfl (Nat.le_of_ble_eq_true rfl) dX12_subjects_4 ⟨Nat.le_of_ble_eq_true rfl, Nat.le_of_ble_eq_true rfl⟩ (fun r1 u2 H locs hqu2 hP hD hS => ?_)
      obtain ⟨hu, hxu2, hr1⟩ := hqu2
      have sameu2 : u = u2 := hr1.1.symm
      subst sameu2
      have hr1 := hr1.2
      refine wiV (C := RX12) (As := [.int r1]) (rest := []) ⟨hx, hb, hml, hown, hts⟩ (fun sz => t_X12_taken l D k u hu h0 m_h0 k_h0 r1 sz) (cwV 1 hts gX12_subjects_X12_taken rfl rfl rfl (by decide +kernel) ⟨Nat.le_of_ble_eq_true rfl, Nat.le_of_ble_eq_true rfl⟩) hP hK hD hN hS hA (precv hK hP m_h0 (cF12 k_h0) rfl) rfl hl.1 rfl (Nat.le_of_ble_eq_true rfl) dX12_subjects_7 ⟨Nat.le_of_ble_eq_true rfl, Nat.le_of_ble_eq_true rfl⟩ (fun r3 u4 H locs hqu4 hP hD hS => ?_)
      obtain ⟨hu, hxu4, z5, hr3⟩ := hqu4
      have hkf := KF.trans hkf hp z5
      have hp := PX.trans hp hxu4
      refine lv_istore_n (lv' := [(2, .int r3), (0, .ref h0), (1, .int v1)]) hx hb dX12_subjects_10 rfl hl (by decide) rfl (fun ls hl => ?_)
      refine lv_aload_n hx hb dX12_subjects_11 rfl (lv_at hl 1 rfl) ?_
      have k_h0 : u4.2.1 h0 = 12 := (hp h0 m0_h0).2.1.trans k0_h0
      have m_h0 : h0 ∈ u4.1 := (hp h0 m0_h0).1
      refine rvi (C := RX12) (As := []) (rest := []) ⟨hx, hb, hml, hown, hts⟩ (t_X12_good l D k u4 hu h0 m_h0 k_h0 ) (cwV 0 hts gX12_subjects_X12_good rfl rfl rfl (by decide +kernel) ⟨Nat.le_of_ble_eq_true rfl, Nat.le_of_ble_eq_true rfl⟩) hP hK (precv hK hP m_h0 (cF12 k_h0) rfl) rfl hl.1 rfl (Nat.le_of_ble_eq_true rfl) dX12_subjects_12 ⟨Nat.le_of_ble_eq_true rfl, Nat.le_of_ble_eq_true rfl⟩ (fun r6 hr6 => ?_)
      refine lv_if_eq (tgt := 24) hx hb dX12_subjects_15 (by decide) (fun c7 => ?_) (fun c7 => ?_)
      · have eb8 : r6.toInt = 0 := by rcases hr6 with ⟨q, -⟩ | ⟨q, -⟩; exact q; (exact absurd (c7) (fun w => by rw [w] at q; exact absurd q (by decide)))
        have fb8 : (u4.2.2.1 h0 12).toInt ≠ 0 := by rcases hr6 with ⟨q, r⟩ | ⟨q, r⟩; exact r; exact absurd q (by omega)
        clear hr6
        refine lv_aload_n hx hb dX12_subjects_24 rfl (lv_at hl 1 rfl) ?_
        refine xiV (C := RX12) (As := []) (rest := []) ⟨hx, hb, hml, hown, hts⟩ (fun sz => t_X12_subjectHere l D k tt u4 hu h0 m_h0 k_h0  sz) (cwV 0 hts gX12_subjects_X12_subjectHere rfl rfl rfl (by decide +kernel) ⟨Nat.le_of_ble_eq_true rfl, Nat.le_of_ble_eq_true rfl⟩) hP hK hD hN hE hS hA (precv hK hP m_h0 (cF12 k_h0) rfl) rfl hl.1 rfl (Nat.le_of_ble_eq_true rfl) dX12_subjects_25 ⟨Nat.le_of_ble_eq_true rfl, Nat.le_of_ble_eq_true rfl⟩ (fun r9 u10 H locs hqu10 hP hD hS => ?_)
        obtain ⟨hu, hxu10, hr9⟩ := hqu10
        have sameu10 : u4 = u10 := hr9.1.symm
        subst sameu10
        have hr9 := hr9.2
        refine lv_iconst (v := (-1)) hx hb dX12_subjects_28 (by decide) ?_
        refine lv_icmp_ne (tgt := 2) hx hb dX12_subjects_29 (by decide) (fun c11 => ?_) (fun c11 => ?_)
        · exact ih2 _ _ _ ls v1 hu hp hkf hP hD hS (by (try simp only [i_lt, i_le, i_eq, Int32.toInt_toInt64, Int32.reduceToInt, Int64.reduceToInt, true_and, and_true, false_and, and_false, false_or, or_false, true_or, or_true, not_true_eq_false, not_false_eq_true, ne_eq, forall_const, true_implies, false_implies, implies_true] at ex0 hn2 hr1 hr3 eb8 fb8 hr9 c11 ⊢) <;> omega) (by (try simp only [i_lt, i_le, i_eq, Int32.toInt_toInt64, Int32.reduceToInt, Int64.reduceToInt, true_and, and_true, false_and, and_false, false_or, or_false, true_or, or_true, not_true_eq_false, not_false_eq_true, ne_eq, forall_const, true_implies, false_implies, implies_true] at ex0 hn2 hr1 hr3 eb8 fb8 hr9 c11 ⊢) <;> omega) (lv_sub hl [1, 2] rfl)
        · refine lv_iload_n hx hb dX12_subjects_32 rfl (lv_at hl 2 rfl) ?_
          exact W.iret (v := v1) hx hb hr (fun t ht hW => ⟨⟨v1, u4, rfl, ⟨hu, hp, hkf, (show ((u4.2.2.1 h0 12).toInt = 0 → (u0.2.2.1 h0 12).toInt = 0) from by (try simp only [i_lt, i_le, i_eq, Int32.toInt_toInt64, Int32.reduceToInt, Int64.reduceToInt, true_and, and_true, false_and, and_false, false_or, or_false, true_or, or_true, not_true_eq_false, not_false_eq_true, ne_eq, forall_const, true_implies, false_implies, implies_true] at ex0 hn2 hr1 hr3 eb8 fb8 hr9 c11 ⊢) <;> omega)⟩, by rw [ht]; exact hP, hD⟩, hS.F ht⟩) hS.2.2 dX12_subjects_33
      · have eb12 : r6.toInt = 1 := by rcases hr6 with ⟨q, -⟩ | ⟨q, -⟩; exact absurd (i_eq.mpr q) c7; exact q
        have fb12 : (u4.2.2.1 h0 12).toInt = 0 := by rcases hr6 with ⟨q, r⟩ | ⟨q, r⟩; exact absurd q (by omega); exact r
        clear hr6
        refine lv_iload_n hx hb dX12_subjects_18 rfl (lv_at hl 2 rfl) ?_
        refine lv_iconst (v := 1) hx hb dX12_subjects_19 (by decide) ?_
        refine lv_iload_n hx hb dX12_subjects_20 rfl (lv_at hl 0 rfl) ?_
        refine lv_ishl hx hb dX12_subjects_21 ?_
        refine lv_topi (fun x13 ex13 => ?_)
        refine lv_ior hx hb dX12_subjects_22 ?_
        refine lv_topi (fun x14 ex14 => ?_)
        refine lv_istore_n (lv' := [(1, .int x14), (2, .int r3), (0, .ref h0)]) hx hb dX12_subjects_23 rfl hl (by decide) rfl (fun ls hl => ?_)
        refine lv_aload_n hx hb dX12_subjects_24 rfl (lv_at hl 2 rfl) ?_
        refine xiV (C := RX12) (As := []) (rest := []) ⟨hx, hb, hml, hown, hts⟩ (fun sz => t_X12_subjectHere l D k tt u4 hu h0 m_h0 k_h0  sz) (cwV 0 hts gX12_subjects_X12_subjectHere rfl rfl rfl (by decide +kernel) ⟨Nat.le_of_ble_eq_true rfl, Nat.le_of_ble_eq_true rfl⟩) hP hK hD hN hE hS hA (precv hK hP m_h0 (cF12 k_h0) rfl) rfl hl.1 rfl (Nat.le_of_ble_eq_true rfl) dX12_subjects_25 ⟨Nat.le_of_ble_eq_true rfl, Nat.le_of_ble_eq_true rfl⟩ (fun r15 u16 H locs hqu16 hP hD hS => ?_)
        obtain ⟨hu, hxu16, hr15⟩ := hqu16
        have sameu16 : u4 = u16 := hr15.1.symm
        subst sameu16
        have hr15 := hr15.2
        refine lv_iconst (v := (-1)) hx hb dX12_subjects_28 (by decide) ?_
        refine lv_icmp_ne (tgt := 2) hx hb dX12_subjects_29 (by decide) (fun c17 => ?_) (fun c17 => ?_)
        · exact ih2 _ _ _ ls x14 hu hp hkf hP hD hS (by (try simp only [i_lt, i_le, i_eq, Int32.toInt_toInt64, Int32.reduceToInt, Int64.reduceToInt, true_and, and_true, false_and, and_false, false_or, or_false, true_or, or_true, not_true_eq_false, not_false_eq_true, ne_eq, forall_const, true_implies, false_implies, implies_true] at ex0 hn2 hr1 hr3 eb12 fb12 hr15 c17 ⊢) <;> omega) (by (try simp only [i_lt, i_le, i_eq, Int32.toInt_toInt64, Int32.reduceToInt, Int64.reduceToInt, true_and, and_true, false_and, and_false, false_or, or_false, true_or, or_true, not_true_eq_false, not_false_eq_true, ne_eq, forall_const, true_implies, false_implies, implies_true] at ex0 hn2 hr1 hr3 eb12 fb12 hr15 c17 ⊢) <;> omega) (lv_sub hl [2, 0] rfl)
        · refine lv_iload_n hx hb dX12_subjects_32 rfl (lv_at hl 0 rfl) ?_
          exact W.iret (v := x14) hx hb hr (fun t ht hW => ⟨⟨x14, u4, rfl, ⟨hu, hp, hkf, (show ((u4.2.2.1 h0 12).toInt = 0 → (u0.2.2.1 h0 12).toInt = 0) from by (try simp only [i_lt, i_le, i_eq, Int32.toInt_toInt64, Int32.reduceToInt, Int64.reduceToInt, true_and, and_true, false_and, and_false, false_or, or_false, true_or, or_true, not_true_eq_false, not_false_eq_true, ne_eq, forall_const, true_implies, false_implies, implies_true] at ex0 hn2 hr1 hr3 eb12 fb12 hr15 c17 ⊢) <;> omega)⟩, by rw [ht]; exact hP, hD⟩, hS.F ht⟩) hS.2.2 dX12_subjects_33
  have hl := lv_entry ([.ref h0]) (n := 3) (Nat.le_of_ble_eq_true rfl)
  rw [lg_entry_eq]
  generalize (lg_sl ([.ref h0]) ++ List.replicate (3 - (lg_sl ([.ref h0])).length) Slot.unset).toArray = ls at hl ⊢
  have hl : lv_has ls 3 [(0, .ref h0)] := hl
  refine lv_iconst (v := 0) hx hb dX12_subjects_0 (by decide) ?_
  refine lv_istore_n (lv' := [(1, .int 0), (0, .ref h0)]) hx hb dX12_subjects_1 rfl hl (by decide) rfl (fun ls hl => ?_)
  exact B2 _ _ _ _ ls 0 hu hp hkf hP hD hS (Nat.le_refl _) (by (try simp only [i_lt, i_le, i_eq, Int32.toInt_toInt64, Int32.reduceToInt, Int64.reduceToInt, true_and, and_true, false_and, and_false, false_or, or_false, true_or, or_true, not_true_eq_false, not_false_eq_true, ne_eq, forall_const, true_implies, false_implies, implies_true]) <;> omega) (lv_sub hl [1, 0] rfl)
set_option maxHeartbeats 4000000 in
set_option maxRecDepth 100000 in
theorem t_X12_readPot (l : Launch) (D : va_G) (k : Nat → ClassId) (tt : TT) (u0 : PSt) (hu : WT u0) (h0 : Nat) (m_h0 : h0 ∈ u0.1) (k_h0 : u0.2.1 h0 = 12) (hpre : (u0.2.2.1 (ar u0 h0 14) 1).toInt ≤ 7) (sz : Nat) : Met l yX12_readPot wsX12_readPot ({ frames := 8, cells := 0, slots := 0, locals := 174 }) (PreT D k tt sz (PW k u0) [.ref h0]) (va_Qv (fun v => WT v ∧ PX u0 v ∧ KL u0 v ∧ (True)) (WB D (va_A (PW k u0) sz) (PW k)) (va_A (PW k u0) sz)) 0 0 (va_A (PW k u0) sz) := by
  refine Met.ofW (cc := cX12_readPot) (maxL := 4) (ret := none) (by decide) rfl ?_
  intro p e s m args below meth c s₁ B hml hv
  obtain ⟨rfl, hsz, hP, hK, hD0, hN, hE0⟩ := hv
  have hx := B.exec
  have hb := B.bytes
  have hr := B.returns
  have hts := atoms_spec (ws := wsX12_readPot) B.pre
  have hown : s.vm.findClass RX12 = some m.cls := findClass_of_methodNamed B.named
  have hlocks := B.notSynchronized
  have i_X12 : ∀ w ∈ wsX120, w ∈ wsX12_readPot := by decide +kernel
  obtain ⟨a14, q0_14, m0_a14, k0_a14⟩ := (hu h0 m_h0).1 14 51 (by rw [k_h0]; rfl)
  have m0_h0 := m_h0
  have k0_h0 := k_h0
  have m_a14 := m0_a14
  have k_a14 := k0_a14
  subst hsz
  have hD := hD0.self (sz := s.heap.size)
  have hE := hE0
  generalize hAe : va_A (PW k u0) s.heap.size = A at hD hE ⊢
  have hA : ∀ q : Nat, s.heap.size ≤ q → A q := fun q h => by rw [← hAe]; exact Or.inr h
  have hS : va_S A s.heap s.heap [] := va_S.rf
  have hp : PX u0 u0 := PX.rf
  have hkl : KL u0 u0 := KL.rf
  simp only [ar_eq q0_14] at hpre
  have hl := lv_entry ([.ref h0]) (n := 4) (Nat.le_of_ble_eq_true rfl)
  rw [lg_entry_eq]
  generalize (lg_sl ([.ref h0]) ++ List.replicate (4 - (lg_sl ([.ref h0])).length) Slot.unset).toArray = ls at hl ⊢
  have hl : lv_has ls 4 [(0, .ref h0)] := hl
  refine lv_aload_n hx hb dX12_readPot_0 rfl (lv_at hl 0 rfl) ?_
  refine va_ldcS (own := RX12) (tx := "step") (q := tt.1 48) hx hb hown (hE.2.1 (RX12, 185, "step", 48) (by decide +kernel)) dX12_readPot_1 ?_
  refine lv_iconst (v := 0) hx hb dX12_readPot_3 (by decide) ?_
  refine lv_bipush (v := 99) hx hb dX12_readPot_4 (by decide) ?_
  refine xiV (C := RX12) (As := [.ref (tt.1 48), .int 0, .int 99]) (rest := []) ⟨hx, hb, hml, hown, hts⟩ (fun sz => t_X12_told l D k tt u0 hu h0 m_h0 k_h0 48 (by decide) 0 99 sz) (cwV 3 hts gX12_readPot_X12_told rfl rfl rfl (by decide +kernel) ⟨Nat.le_of_ble_eq_true rfl, Nat.le_of_ble_eq_true rfl⟩) hP hK hD hN hE hS hA (precv hK hP m_h0 (cF12 k_h0) rfl) rfl hl.1 rfl (Nat.le_of_ble_eq_true rfl) dX12_readPot_6 ⟨Nat.le_of_ble_eq_true rfl, Nat.le_of_ble_eq_true rfl⟩ (fun r1 u2 H locs hqu2 hP hD hS => ?_)
  obtain ⟨hu, hxu2, z3, hr1⟩ := hqu2
  have hkl := KL.trans hkl hp z3.toL
  have hp := PX.trans hp hxu2
  have w4 : (u2.2.2.1 a14 1).toInt = (u0.2.2.1 a14 1).toInt := congrArg Int32.toInt (z3 a14 m_a14 k_a14 1)
  have gr1 : 0 ≤ r1.toInt ∧ r1.toInt ≤ 99 := by (try simp only [i_lt, i_le, i_eq, Int32.toInt_toInt64, Int32.reduceToInt, Int64.reduceToInt, true_and, and_true, false_and, and_false, false_or, or_false, true_or, or_true, not_true_eq_false, not_false_eq_true, ne_eq, forall_const, true_implies, false_implies, implies_true] at hpre w4 hr1 ⊢) <;> omega
  refine lv_istore_n (lv' := [(1, .int r1), (0, .ref h0)]) hx hb dX12_readPot_9 rfl hl (by decide) rfl (fun ls hl => ?_)
  refine lv_aload_n hx hb dX12_readPot_10 rfl (lv_at hl 1 rfl) ?_
  refine va_ldcS (own := RX12) (tx := "holds") (q := tt.1 49) hx hb hown (hE.2.1 (RX12, 191, "holds", 49) (by decide +kernel)) dX12_readPot_11 ?_
  refine lv_iconst (v := 0) hx hb dX12_readPot_13 (by decide) ?_
  refine lv_sipush (v := 999) hx hb dX12_readPot_14 (by decide) ?_
  have k_h0 : u2.2.1 h0 = 12 := (hp h0 m0_h0).2.1.trans k0_h0
  have m_h0 : h0 ∈ u2.1 := (hp h0 m0_h0).1
  have k_a14 : u2.2.1 a14 = 51 := (hp a14 m0_a14).2.1.trans k0_a14
  have m_a14 : a14 ∈ u2.1 := (hp a14 m0_a14).1
  refine xiV (C := RX12) (As := [.ref (tt.1 49), .int 0, .int 999]) (rest := []) ⟨hx, hb, hml, hown, hts⟩ (fun sz => t_X12_told l D k tt u2 hu h0 m_h0 k_h0 49 (by decide) 0 999 sz) (cwV 3 hts gX12_readPot_X12_told rfl rfl rfl (by decide +kernel) ⟨Nat.le_of_ble_eq_true rfl, Nat.le_of_ble_eq_true rfl⟩) hP hK hD hN hE hS hA (precv hK hP m_h0 (cF12 k_h0) rfl) rfl hl.1 rfl (Nat.le_of_ble_eq_true rfl) dX12_readPot_17 ⟨Nat.le_of_ble_eq_true rfl, Nat.le_of_ble_eq_true rfl⟩ (fun r5 u6 H locs hqu6 hP hD hS => ?_)
  obtain ⟨hu, hxu6, z7, hr5⟩ := hqu6
  have hkl := KL.trans hkl hp z7.toL
  have hp := PX.trans hp hxu6
  have w8 : (u6.2.2.1 a14 1).toInt = (u2.2.2.1 a14 1).toInt := congrArg Int32.toInt (z7 a14 m_a14 k_a14 1)
  have gr5 : 0 ≤ r5.toInt ∧ r5.toInt ≤ 999 := by (try simp only [i_lt, i_le, i_eq, Int32.toInt_toInt64, Int32.reduceToInt, Int64.reduceToInt, true_and, and_true, false_and, and_false, false_or, or_false, true_or, or_true, not_true_eq_false, not_false_eq_true, ne_eq, forall_const, true_implies, false_implies, implies_true] at hpre w4 hr1 gr1 w8 hr5 ⊢) <;> omega
  refine lv_istore_n (lv' := [(2, .int r5), (1, .int r1), (0, .ref h0)]) hx hb dX12_readPot_20 rfl hl (by decide) rfl (fun ls hl => ?_)
  refine lv_aload_n hx hb dX12_readPot_21 rfl (lv_at hl 2 rfl) ?_
  have k_h0 : u6.2.1 h0 = 12 := (hp h0 m0_h0).2.1.trans k0_h0
  have m_h0 : h0 ∈ u6.1 := (hp h0 m0_h0).1
  have k_a14 : u6.2.1 a14 = 51 := (hp a14 m0_a14).2.1.trans k0_a14
  have m_a14 : a14 ∈ u6.1 := (hp a14 m0_a14).1
  refine rvi (C := RX12) (As := []) (rest := []) ⟨hx, hb, hml, hown, hts⟩ (t_X12_good l D k u6 hu h0 m_h0 k_h0 ) (cwV 0 hts gX12_readPot_X12_good rfl rfl rfl (by decide +kernel) ⟨Nat.le_of_ble_eq_true rfl, Nat.le_of_ble_eq_true rfl⟩) hP hK (precv hK hP m_h0 (cF12 k_h0) rfl) rfl hl.1 rfl (Nat.le_of_ble_eq_true rfl) dX12_readPot_22 ⟨Nat.le_of_ble_eq_true rfl, Nat.le_of_ble_eq_true rfl⟩ (fun r9 hr9 => ?_)
  refine lv_if_ne (tgt := 29) hx hb dX12_readPot_25 (by decide) (fun c10 => ?_) (fun c10 => ?_)
  · have eb11 : r9.toInt = 1 := by rcases hr9 with ⟨q, -⟩ | ⟨q, -⟩; exact absurd (i_eq.mpr q) c10; exact q
    have fb11 : (u6.2.2.1 h0 12).toInt = 0 := by rcases hr9 with ⟨q, r⟩ | ⟨q, r⟩; exact absurd q (by omega); exact r
    clear hr9
    refine lv_aload_n hx hb dX12_readPot_29 rfl (lv_at hl 2 rfl) ?_
    refine pget (ci := 12) (v := va_rf (u6.2.2.2.2 h0 14)) (C := RX12) (T := TX12) (N := 34) hx hb hts i_X12 hown hK hP m_h0 (cF12 k_h0) rfl 14 (by decide) (hts (.fieldLink RX12 34 "BellowsRowModel" "fresh" "[I") (by decide +kernel)) (fun _ h9 => h9) rfl dX12_readPot_30 ?_
    refine W.eq (g2 := F0 m 33 ls [.ref a14]) (by rw [(((hp h0 m0_h0).2.2.2.2.2.1 k0_h0 14).trans q0_14)]; rfl) ?_
    refine lv_iconst (v := 1) hx hb dX12_readPot_33 (by decide) ?_
    refine palI hx hb hK hP m_a14 (cF51 k_a14) 1 rfl (vp_in_iff.mpr (by decide)) dX12_readPot_34 ?_
    refine lv_topi (fun x12 ex12 => ?_)
    have tx12 : x12.toInt = (u6.2.2.1 a14 1).toInt := congrArg Int32.toInt ex12
    have g13 : 0 ≤ x12.toInt ∧ x12.toInt ≤ 8 := by have g : okI (u6.2.1 a14) (1) (u6.2.2.1 a14 (1)) := (hu a14 m_a14).2.2.2 (1); rw [k_a14, ← (show x12 = u6.2.2.1 a14 (1) from ex12)] at g; have g : okW (1) x12 := g; unfold okW at g; (try simp only [i_lt, i_le, i_eq, Int32.toInt_toInt64, Int32.reduceToInt, Int64.reduceToInt, true_and, and_true, false_and, and_false, false_or, or_false, true_or, or_true, not_true_eq_false, not_false_eq_true, ne_eq, forall_const, true_implies, false_implies, implies_true] at hpre w4 hr1 gr1 w8 hr5 gr5 eb11 fb11 tx12 g ⊢) <;> omega
    refine lv_istore_n (lv' := [(3, .int x12), (2, .int r5), (1, .int r1), (0, .ref h0)]) hx hb dX12_readPot_35 rfl hl (by decide) rfl (fun ls hl => ?_)
    refine lv_aload_n hx hb dX12_readPot_36 rfl (lv_at hl 3 rfl) ?_
    refine pget (ci := 12) (v := va_rf (u6.2.2.2.2 h0 14)) (C := RX12) (T := TX12) (N := 34) hx hb hts i_X12 hown hK hP m_h0 (cF12 k_h0) rfl 14 (by decide) (hts (.fieldLink RX12 34 "BellowsRowModel" "fresh" "[I") (by decide +kernel)) (fun _ h9 => h9) rfl dX12_readPot_37 ?_
    refine W.eq (g2 := F0 m 40 ls [.ref a14]) (by rw [(((hp h0 m0_h0).2.2.2.2.2.1 k0_h0 14).trans q0_14)]; rfl) ?_
    refine lv_bipush (v := 10) hx hb dX12_readPot_40 (by decide) ?_
    refine lv_iconst (v := 2) hx hb dX12_readPot_42 (by decide) ?_
    refine lv_iload_n hx hb dX12_readPot_43 rfl (lv_at hl 0 rfl) ?_
    refine lv_imul hx hb dX12_readPot_44 ?_
    refine lv_topi (fun x14 ex14 => ?_)
    have tx14 : x14.toInt = 2 * x12.toInt := by rw [ex14]; exact i_mulc (c := 2) (by decide) ((show 0 ≤ x12.toInt ∧ x12.toInt ≤ 8 from by (try simp only [i_lt, i_le, i_eq, Int32.toInt_toInt64, Int32.reduceToInt, Int64.reduceToInt, true_and, and_true, false_and, and_false, false_or, or_false, true_or, or_true, not_true_eq_false, not_false_eq_true, ne_eq, forall_const, true_implies, false_implies, implies_true] at hpre w4 hr1 gr1 w8 hr5 gr5 eb11 fb11 tx12 g13 ⊢) <;> omega)) (by decide)
    refine lv_iadd hx hb dX12_readPot_45 ?_
    refine lv_topi (fun x15 ex15 => ?_)
    have tx15 : x15.toInt = (10 : Int32).toInt + x14.toInt := by rw [ex15]; exact i_add (by (try simp only [i_lt, i_le, i_eq, Int32.toInt_toInt64, Int32.reduceToInt, Int64.reduceToInt, true_and, and_true, false_and, and_false, false_or, or_false, true_or, or_true, not_true_eq_false, not_false_eq_true, ne_eq, forall_const, true_implies, false_implies, implies_true] at hpre w4 hr1 gr1 w8 hr5 gr5 eb11 fb11 tx12 g13 tx14 ⊢) <;> omega) (by (try simp only [i_lt, i_le, i_eq, Int32.toInt_toInt64, Int32.reduceToInt, Int64.reduceToInt, true_and, and_true, false_and, and_false, false_or, or_false, true_or, or_true, not_true_eq_false, not_false_eq_true, ne_eq, forall_const, true_implies, false_implies, implies_true] at hpre w4 hr1 gr1 w8 hr5 gr5 eb11 fb11 tx12 g13 tx14 ⊢) <;> omega)
    refine lv_iload_n hx hb dX12_readPot_46 rfl (lv_at hl 0 rfl) ?_
    refine lv_if_ne (tgt := 54) hx hb dX12_readPot_47 (by decide) (fun c16 => ?_) (fun c16 => ?_)
    · refine lv_aload_n hx hb dX12_readPot_54 rfl (lv_at hl 3 rfl) ?_
      refine pget (ci := 12) (v := va_rf (u6.2.2.2.2 h0 14)) (C := RX12) (T := TX12) (N := 34) hx hb hts i_X12 hown hK hP m_h0 (cF12 k_h0) rfl 14 (by decide) (hts (.fieldLink RX12 34 "BellowsRowModel" "fresh" "[I") (by decide +kernel)) (fun _ h9 => h9) rfl dX12_readPot_55 ?_
      refine W.eq (g2 := F0 m 58 ls [.ref a14, .int x15, .ref a14]) (by rw [(((hp h0 m0_h0).2.2.2.2.2.1 k0_h0 14).trans q0_14)]; rfl) ?_
      refine lv_bipush (v := 10) hx hb dX12_readPot_58 (by decide) ?_
      refine lv_iconst (v := 2) hx hb dX12_readPot_60 (by decide) ?_
      refine lv_iload_n hx hb dX12_readPot_61 rfl (lv_at hl 0 rfl) ?_
      refine lv_iconst (v := 1) hx hb dX12_readPot_62 (by decide) ?_
      refine lv_isub hx hb dX12_readPot_63 ?_
      refine lv_topi (fun x17 ex17 => ?_)
      have tx17 : x17.toInt = x12.toInt - (1 : Int32).toInt := by rw [ex17]; exact i_sub (by (try simp only [i_lt, i_le, i_eq, Int32.toInt_toInt64, Int32.reduceToInt, Int64.reduceToInt, true_and, and_true, false_and, and_false, false_or, or_false, true_or, or_true, not_true_eq_false, not_false_eq_true, ne_eq, forall_const, true_implies, false_implies, implies_true] at hpre w4 hr1 gr1 w8 hr5 gr5 eb11 fb11 tx12 g13 tx14 tx15 c16 ⊢) <;> omega) (by (try simp only [i_lt, i_le, i_eq, Int32.toInt_toInt64, Int32.reduceToInt, Int64.reduceToInt, true_and, and_true, false_and, and_false, false_or, or_false, true_or, or_true, not_true_eq_false, not_false_eq_true, ne_eq, forall_const, true_implies, false_implies, implies_true] at hpre w4 hr1 gr1 w8 hr5 gr5 eb11 fb11 tx12 g13 tx14 tx15 c16 ⊢) <;> omega)
      refine lv_imul hx hb dX12_readPot_64 ?_
      refine lv_topi (fun x18 ex18 => ?_)
      have tx18 : x18.toInt = 2 * x17.toInt := by rw [ex18]; exact i_mulc (c := 2) (by decide) ((show 0 ≤ x17.toInt ∧ x17.toInt ≤ 7 from by (try simp only [i_lt, i_le, i_eq, Int32.toInt_toInt64, Int32.reduceToInt, Int64.reduceToInt, true_and, and_true, false_and, and_false, false_or, or_false, true_or, or_true, not_true_eq_false, not_false_eq_true, ne_eq, forall_const, true_implies, false_implies, implies_true] at hpre w4 hr1 gr1 w8 hr5 gr5 eb11 fb11 tx12 g13 tx14 tx15 c16 tx17 ⊢) <;> omega)) (by decide)
      refine lv_iadd hx hb dX12_readPot_65 ?_
      refine lv_topi (fun x19 ex19 => ?_)
      have tx19 : x19.toInt = (10 : Int32).toInt + x18.toInt := by rw [ex19]; exact i_add (by (try simp only [i_lt, i_le, i_eq, Int32.toInt_toInt64, Int32.reduceToInt, Int64.reduceToInt, true_and, and_true, false_and, and_false, false_or, or_false, true_or, or_true, not_true_eq_false, not_false_eq_true, ne_eq, forall_const, true_implies, false_implies, implies_true] at hpre w4 hr1 gr1 w8 hr5 gr5 eb11 fb11 tx12 g13 tx14 tx15 c16 tx17 tx18 ⊢) <;> omega) (by (try simp only [i_lt, i_le, i_eq, Int32.toInt_toInt64, Int32.reduceToInt, Int64.reduceToInt, true_and, and_true, false_and, and_false, false_or, or_false, true_or, or_true, not_true_eq_false, not_false_eq_true, ne_eq, forall_const, true_implies, false_implies, implies_true] at hpre w4 hr1 gr1 w8 hr5 gr5 eb11 fb11 tx12 g13 tx14 tx15 c16 tx17 tx18 ⊢) <;> omega)
      refine palI hx hb hK hP m_a14 (cF51 k_a14) 1 rfl (vp_in_iff.mpr (by (try simp only [i_lt, i_le, i_eq, Int32.toInt_toInt64, Int32.reduceToInt, Int64.reduceToInt, true_and, and_true, false_and, and_false, false_or, or_false, true_or, or_true, not_true_eq_false, not_false_eq_true, ne_eq, forall_const, true_implies, false_implies, implies_true] at hpre w4 hr1 gr1 w8 hr5 gr5 eb11 fb11 tx12 g13 tx14 tx15 c16 tx17 tx18 tx19 ⊢) <;> omega)) dX12_readPot_66 ?_
      refine lv_topi (fun x20 ex20 => ?_)
      have tx20 : x20.toInt = (u6.2.2.1 a14 (x19.toNatClampNeg)).toInt := congrArg Int32.toInt ex20
      refine lv_iload_n hx hb dX12_readPot_67 rfl (lv_at hl 2 rfl) ?_
      refine lv_isub hx hb dX12_readPot_68 ?_
      refine lv_topi (fun x21 ex21 => ?_)
      refine pasI (u' := pSI u6 a14 (x15.toNatClampNeg) x21) hx hb hK hP hD hS m_a14 (cF51 k_a14) 1 rfl (vp_in_iff.mpr (by (try simp only [i_lt, i_le, i_eq, Int32.toInt_toInt64, Int32.reduceToInt, Int64.reduceToInt, true_and, and_true, false_and, and_false, false_or, or_false, true_or, or_true, not_true_eq_false, not_false_eq_true, ne_eq, forall_const, true_implies, false_implies, implies_true] at hpre w4 hr1 gr1 w8 hr5 gr5 eb11 fb11 tx12 g13 tx14 tx15 c16 tx17 tx18 tx19 tx20 ⊢) <;> omega)) rfl (sF51 k_a14 _ _) dX12_readPot_69 (fun H locs hP hD hS => ?_)
      have hu := WT.setI (a := a14) (s := (x15.toNatClampNeg)) (v := x21) hu (by rw [k_a14]; exact (show okW (x15.toNatClampNeg) x21 from by unfold okW; have z := cl_int (x := x15) (by (try simp only [i_lt, i_le, i_eq, Int32.toInt_toInt64, Int32.reduceToInt, Int64.reduceToInt, true_and, and_true, false_and, and_false, false_or, or_false, true_or, or_true, not_true_eq_false, not_false_eq_true, ne_eq, forall_const, true_implies, false_implies, implies_true] at hpre w4 hr1 gr1 w8 hr5 gr5 eb11 fb11 tx12 g13 tx14 tx15 c16 tx17 tx18 tx19 tx20 ⊢) <;> omega); (try simp only [i_lt, i_le, i_eq, Int32.toInt_toInt64, Int32.reduceToInt, Int64.reduceToInt, true_and, and_true, false_and, and_false, false_or, or_false, true_or, or_true, not_true_eq_false, not_false_eq_true, ne_eq, forall_const, true_implies, false_implies, implies_true] at hpre w4 hr1 gr1 w8 hr5 gr5 eb11 fb11 tx12 g13 tx14 tx15 c16 tx17 tx18 tx19 tx20 z ⊢) <;> omega))
      have hkl := KL.setF (a := a14) (s := (x15.toNatClampNeg)) (v := x21) hkl (by have z := cl_int (x := x15) (by (try simp only [i_lt, i_le, i_eq, Int32.toInt_toInt64, Int32.reduceToInt, Int64.reduceToInt, true_and, and_true, false_and, and_false, false_or, or_false, true_or, or_true, not_true_eq_false, not_false_eq_true, ne_eq, forall_const, true_implies, false_implies, implies_true] at hpre w4 hr1 gr1 w8 hr5 gr5 eb11 fb11 tx12 g13 tx14 tx15 c16 tx17 tx18 tx19 tx20 ⊢) <;> omega); (try simp only [i_lt, i_le, i_eq, Int32.toInt_toInt64, Int32.reduceToInt, Int64.reduceToInt, true_and, and_true, false_and, and_false, false_or, or_false, true_or, or_true, not_true_eq_false, not_false_eq_true, ne_eq, forall_const, true_implies, false_implies, implies_true] at hpre w4 hr1 gr1 w8 hr5 gr5 eb11 fb11 tx12 g13 tx14 tx15 c16 tx17 tx18 tx19 tx20 z ⊢) <;> omega)
      have hp := PX.setI (a := a14) (s := (x15.toNatClampNeg)) (v := x21) hp (by rw [k_a14]; decide)
      obtain ⟨u22, hu22⟩ : ∃ z, z = pSI u6 a14 (x15.toNatClampNeg) x21 := ⟨_, rfl⟩
      rw [← hu22] at hP hD hu hp hkl
      have w23 : (u22.2.2.1 a14 1).toInt = (u6.2.2.1 a14 1).toInt := by rw [hu22]; exact congrArg Int32.toInt (if_neg (fun q => by have y := q.2; have z := cl_int (x := x15) (by (try simp only [i_lt, i_le, i_eq, Int32.toInt_toInt64, Int32.reduceToInt, Int64.reduceToInt, true_and, and_true, false_and, and_false, false_or, or_false, true_or, or_true, not_true_eq_false, not_false_eq_true, ne_eq, forall_const, true_implies, false_implies, implies_true] at hpre w4 hr1 gr1 w8 hr5 gr5 eb11 fb11 tx12 g13 tx14 tx15 c16 tx17 tx18 tx19 tx20 ⊢) <;> omega); (try simp only [i_lt, i_le, i_eq, Int32.toInt_toInt64, Int32.reduceToInt, Int64.reduceToInt, true_and, and_true, false_and, and_false, false_or, or_false, true_or, or_true, not_true_eq_false, not_false_eq_true, ne_eq, forall_const, true_implies, false_implies, implies_true] at hpre w4 hr1 gr1 w8 hr5 gr5 eb11 fb11 tx12 g13 tx14 tx15 c16 tx17 tx18 tx19 tx20 y z ⊢) <;> omega))
      refine lv_aload_n hx hb dX12_readPot_70 rfl (lv_at hl 3 rfl) ?_
      have k_h0 : u22.2.1 h0 = 12 := (hp h0 m0_h0).2.1.trans k0_h0
      have m_h0 : h0 ∈ u22.1 := (hp h0 m0_h0).1
      have k_a14 : u22.2.1 a14 = 51 := (hp a14 m0_a14).2.1.trans k0_a14
      have m_a14 : a14 ∈ u22.1 := (hp a14 m0_a14).1
      refine pget (ci := 12) (v := va_rf (u22.2.2.2.2 h0 14)) (C := RX12) (T := TX12) (N := 34) hx hb hts i_X12 hown hK hP m_h0 (cF12 k_h0) rfl 14 (by decide) (hts (.fieldLink RX12 34 "BellowsRowModel" "fresh" "[I") (by decide +kernel)) (fun _ h9 => h9) rfl dX12_readPot_71 ?_
      refine W.eq (g2 := F0 m 74 ls [.ref a14]) (by rw [(((hp h0 m0_h0).2.2.2.2.2.1 k0_h0 14).trans q0_14)]; rfl) ?_
      refine lv_bipush (v := 10) hx hb dX12_readPot_74 (by decide) ?_
      refine lv_iconst (v := 2) hx hb dX12_readPot_76 (by decide) ?_
      refine lv_iload_n hx hb dX12_readPot_77 rfl (lv_at hl 0 rfl) ?_
      refine lv_imul hx hb dX12_readPot_78 ?_
      refine lv_topi (fun x24 ex24 => ?_)
      have tx24 : x24.toInt = 2 * x12.toInt := by rw [ex24]; exact i_mulc (c := 2) (by decide) ((show 1 ≤ x12.toInt ∧ x12.toInt ≤ 8 from by (try simp only [i_lt, i_le, i_eq, Int32.toInt_toInt64, Int32.reduceToInt, Int64.reduceToInt, true_and, and_true, false_and, and_false, false_or, or_false, true_or, or_true, not_true_eq_false, not_false_eq_true, ne_eq, forall_const, true_implies, false_implies, implies_true] at hpre w4 hr1 gr1 w8 hr5 gr5 eb11 fb11 tx12 g13 tx14 tx15 c16 tx17 tx18 tx19 tx20 w23 ⊢) <;> omega)) (by decide)
      refine lv_iadd hx hb dX12_readPot_79 ?_
      refine lv_topi (fun x25 ex25 => ?_)
      have tx25 : x25.toInt = (10 : Int32).toInt + x24.toInt := by rw [ex25]; exact i_add (by (try simp only [i_lt, i_le, i_eq, Int32.toInt_toInt64, Int32.reduceToInt, Int64.reduceToInt, true_and, and_true, false_and, and_false, false_or, or_false, true_or, or_true, not_true_eq_false, not_false_eq_true, ne_eq, forall_const, true_implies, false_implies, implies_true] at hpre w4 hr1 gr1 w8 hr5 gr5 eb11 fb11 tx12 g13 tx14 tx15 c16 tx17 tx18 tx19 tx20 w23 tx24 ⊢) <;> omega) (by (try simp only [i_lt, i_le, i_eq, Int32.toInt_toInt64, Int32.reduceToInt, Int64.reduceToInt, true_and, and_true, false_and, and_false, false_or, or_false, true_or, or_true, not_true_eq_false, not_false_eq_true, ne_eq, forall_const, true_implies, false_implies, implies_true] at hpre w4 hr1 gr1 w8 hr5 gr5 eb11 fb11 tx12 g13 tx14 tx15 c16 tx17 tx18 tx19 tx20 w23 tx24 ⊢) <;> omega)
      refine lv_iconst (v := 1) hx hb dX12_readPot_80 (by decide) ?_
      refine lv_iadd hx hb dX12_readPot_81 ?_
      refine lv_topi (fun x26 ex26 => ?_)
      have tx26 : x26.toInt = x25.toInt + (1 : Int32).toInt := by rw [ex26]; exact i_add (by (try simp only [i_lt, i_le, i_eq, Int32.toInt_toInt64, Int32.reduceToInt, Int64.reduceToInt, true_and, and_true, false_and, and_false, false_or, or_false, true_or, or_true, not_true_eq_false, not_false_eq_true, ne_eq, forall_const, true_implies, false_implies, implies_true] at hpre w4 hr1 gr1 w8 hr5 gr5 eb11 fb11 tx12 g13 tx14 tx15 c16 tx17 tx18 tx19 tx20 w23 tx24 tx25 ⊢) <;> omega) (by (try simp only [i_lt, i_le, i_eq, Int32.toInt_toInt64, Int32.reduceToInt, Int64.reduceToInt, true_and, and_true, false_and, and_false, false_or, or_false, true_or, or_true, not_true_eq_false, not_false_eq_true, ne_eq, forall_const, true_implies, false_implies, implies_true] at hpre w4 hr1 gr1 w8 hr5 gr5 eb11 fb11 tx12 g13 tx14 tx15 c16 tx17 tx18 tx19 tx20 w23 tx24 tx25 ⊢) <;> omega)
      refine lv_iload_n hx hb dX12_readPot_82 rfl (lv_at hl 1 rfl) ?_
      refine pasI (u' := pSI u22 a14 (x26.toNatClampNeg) r5) hx hb hK hP hD hS m_a14 (cF51 k_a14) 1 rfl (vp_in_iff.mpr (by (try simp only [i_lt, i_le, i_eq, Int32.toInt_toInt64, Int32.reduceToInt, Int64.reduceToInt, true_and, and_true, false_and, and_false, false_or, or_false, true_or, or_true, not_true_eq_false, not_false_eq_true, ne_eq, forall_const, true_implies, false_implies, implies_true] at hpre w4 hr1 gr1 w8 hr5 gr5 eb11 fb11 tx12 g13 tx14 tx15 c16 tx17 tx18 tx19 tx20 w23 tx24 tx25 tx26 ⊢) <;> omega)) rfl (sF51 k_a14 _ _) dX12_readPot_83 (fun H locs hP hD hS => ?_)
      have hu := WT.setI (a := a14) (s := (x26.toNatClampNeg)) (v := r5) hu (by rw [k_a14]; exact (show okW (x26.toNatClampNeg) r5 from by unfold okW; have z := cl_int (x := x26) (by (try simp only [i_lt, i_le, i_eq, Int32.toInt_toInt64, Int32.reduceToInt, Int64.reduceToInt, true_and, and_true, false_and, and_false, false_or, or_false, true_or, or_true, not_true_eq_false, not_false_eq_true, ne_eq, forall_const, true_implies, false_implies, implies_true] at hpre w4 hr1 gr1 w8 hr5 gr5 eb11 fb11 tx12 g13 tx14 tx15 c16 tx17 tx18 tx19 tx20 w23 tx24 tx25 tx26 ⊢) <;> omega); (try simp only [i_lt, i_le, i_eq, Int32.toInt_toInt64, Int32.reduceToInt, Int64.reduceToInt, true_and, and_true, false_and, and_false, false_or, or_false, true_or, or_true, not_true_eq_false, not_false_eq_true, ne_eq, forall_const, true_implies, false_implies, implies_true] at hpre w4 hr1 gr1 w8 hr5 gr5 eb11 fb11 tx12 g13 tx14 tx15 c16 tx17 tx18 tx19 tx20 w23 tx24 tx25 tx26 z ⊢) <;> omega))
      have hkl := KL.setF (a := a14) (s := (x26.toNatClampNeg)) (v := r5) hkl (by have z := cl_int (x := x26) (by (try simp only [i_lt, i_le, i_eq, Int32.toInt_toInt64, Int32.reduceToInt, Int64.reduceToInt, true_and, and_true, false_and, and_false, false_or, or_false, true_or, or_true, not_true_eq_false, not_false_eq_true, ne_eq, forall_const, true_implies, false_implies, implies_true] at hpre w4 hr1 gr1 w8 hr5 gr5 eb11 fb11 tx12 g13 tx14 tx15 c16 tx17 tx18 tx19 tx20 w23 tx24 tx25 tx26 ⊢) <;> omega); (try simp only [i_lt, i_le, i_eq, Int32.toInt_toInt64, Int32.reduceToInt, Int64.reduceToInt, true_and, and_true, false_and, and_false, false_or, or_false, true_or, or_true, not_true_eq_false, not_false_eq_true, ne_eq, forall_const, true_implies, false_implies, implies_true] at hpre w4 hr1 gr1 w8 hr5 gr5 eb11 fb11 tx12 g13 tx14 tx15 c16 tx17 tx18 tx19 tx20 w23 tx24 tx25 tx26 z ⊢) <;> omega)
      have hp := PX.setI (a := a14) (s := (x26.toNatClampNeg)) (v := r5) hp (by rw [k_a14]; decide)
      obtain ⟨u27, hu27⟩ : ∃ z, z = pSI u22 a14 (x26.toNatClampNeg) r5 := ⟨_, rfl⟩
      rw [← hu27] at hP hD hu hp hkl
      have w28 : (u27.2.2.1 a14 1).toInt = (u22.2.2.1 a14 1).toInt := by rw [hu27]; exact congrArg Int32.toInt (if_neg (fun q => by have y := q.2; have z := cl_int (x := x26) (by (try simp only [i_lt, i_le, i_eq, Int32.toInt_toInt64, Int32.reduceToInt, Int64.reduceToInt, true_and, and_true, false_and, and_false, false_or, or_false, true_or, or_true, not_true_eq_false, not_false_eq_true, ne_eq, forall_const, true_implies, false_implies, implies_true] at hpre w4 hr1 gr1 w8 hr5 gr5 eb11 fb11 tx12 g13 tx14 tx15 c16 tx17 tx18 tx19 tx20 w23 tx24 tx25 tx26 ⊢) <;> omega); (try simp only [i_lt, i_le, i_eq, Int32.toInt_toInt64, Int32.reduceToInt, Int64.reduceToInt, true_and, and_true, false_and, and_false, false_or, or_false, true_or, or_true, not_true_eq_false, not_false_eq_true, ne_eq, forall_const, true_implies, false_implies, implies_true] at hpre w4 hr1 gr1 w8 hr5 gr5 eb11 fb11 tx12 g13 tx14 tx15 c16 tx17 tx18 tx19 tx20 w23 tx24 tx25 tx26 y z ⊢) <;> omega))
      refine lv_aload_n hx hb dX12_readPot_84 rfl (lv_at hl 3 rfl) ?_
      have k_h0 : u27.2.1 h0 = 12 := (hp h0 m0_h0).2.1.trans k0_h0
      have m_h0 : h0 ∈ u27.1 := (hp h0 m0_h0).1
      have k_a14 : u27.2.1 a14 = 51 := (hp a14 m0_a14).2.1.trans k0_a14
      have m_a14 : a14 ∈ u27.1 := (hp a14 m0_a14).1
      refine pget (ci := 12) (v := va_rf (u27.2.2.2.2 h0 14)) (C := RX12) (T := TX12) (N := 34) hx hb hts i_X12 hown hK hP m_h0 (cF12 k_h0) rfl 14 (by decide) (hts (.fieldLink RX12 34 "BellowsRowModel" "fresh" "[I") (by decide +kernel)) (fun _ h9 => h9) rfl dX12_readPot_85 ?_
      refine W.eq (g2 := F0 m 88 ls [.ref a14]) (by rw [(((hp h0 m0_h0).2.2.2.2.2.1 k0_h0 14).trans q0_14)]; rfl) ?_
      refine lv_iconst (v := 1) hx hb dX12_readPot_88 (by decide) ?_
      refine lv_dup2_11 hx hb dX12_readPot_89 rfl rfl ?_
      refine palI hx hb hK hP m_a14 (cF51 k_a14) 1 rfl (vp_in_iff.mpr (by decide)) dX12_readPot_90 ?_
      refine lv_topi (fun x29 ex29 => ?_)
      have tx29 : x29.toInt = (u27.2.2.1 a14 1).toInt := congrArg Int32.toInt ex29
      have g30 : 0 ≤ x29.toInt ∧ x29.toInt ≤ 8 := by have g : okI (u27.2.1 a14) (1) (u27.2.2.1 a14 (1)) := (hu a14 m_a14).2.2.2 (1); rw [k_a14, ← (show x29 = u27.2.2.1 a14 (1) from ex29)] at g; have g : okW (1) x29 := g; unfold okW at g; (try simp only [i_lt, i_le, i_eq, Int32.toInt_toInt64, Int32.reduceToInt, Int64.reduceToInt, true_and, and_true, false_and, and_false, false_or, or_false, true_or, or_true, not_true_eq_false, not_false_eq_true, ne_eq, forall_const, true_implies, false_implies, implies_true] at hpre w4 hr1 gr1 w8 hr5 gr5 eb11 fb11 tx12 g13 tx14 tx15 c16 tx17 tx18 tx19 tx20 w23 tx24 tx25 tx26 w28 tx29 g ⊢) <;> omega
      refine lv_iconst (v := 1) hx hb dX12_readPot_91 (by decide) ?_
      refine lv_iadd hx hb dX12_readPot_92 ?_
      refine lv_topi (fun x31 ex31 => ?_)
      have tx31 : x31.toInt = x29.toInt + (1 : Int32).toInt := by rw [ex31]; exact i_add (by (try simp only [i_lt, i_le, i_eq, Int32.toInt_toInt64, Int32.reduceToInt, Int64.reduceToInt, true_and, and_true, false_and, and_false, false_or, or_false, true_or, or_true, not_true_eq_false, not_false_eq_true, ne_eq, forall_const, true_implies, false_implies, implies_true] at hpre w4 hr1 gr1 w8 hr5 gr5 eb11 fb11 tx12 g13 tx14 tx15 c16 tx17 tx18 tx19 tx20 w23 tx24 tx25 tx26 w28 tx29 g30 ⊢) <;> omega) (by (try simp only [i_lt, i_le, i_eq, Int32.toInt_toInt64, Int32.reduceToInt, Int64.reduceToInt, true_and, and_true, false_and, and_false, false_or, or_false, true_or, or_true, not_true_eq_false, not_false_eq_true, ne_eq, forall_const, true_implies, false_implies, implies_true] at hpre w4 hr1 gr1 w8 hr5 gr5 eb11 fb11 tx12 g13 tx14 tx15 c16 tx17 tx18 tx19 tx20 w23 tx24 tx25 tx26 w28 tx29 g30 ⊢) <;> omega)
      refine pasI (u' := pSI u27 a14 1 x31) hx hb hK hP hD hS m_a14 (cF51 k_a14) 1 rfl (vp_in_iff.mpr (by decide)) rfl (sF51 k_a14 _ _) dX12_readPot_93 (fun H locs hP hD hS => ?_)
      have hu := WT.setI (a := a14) (s := 1) (v := x31) hu (by rw [k_a14]; exact (show okW 1 x31 from by unfold okW; (try simp only [i_lt, i_le, i_eq, Int32.toInt_toInt64, Int32.reduceToInt, Int64.reduceToInt, true_and, and_true, false_and, and_false, false_or, or_false, true_or, or_true, not_true_eq_false, not_false_eq_true, ne_eq, forall_const, true_implies, false_implies, implies_true] at hpre w4 hr1 gr1 w8 hr5 gr5 eb11 fb11 tx12 g13 tx14 tx15 c16 tx17 tx18 tx19 tx20 w23 tx24 tx25 tx26 w28 tx29 g30 tx31 ⊢) <;> omega))
      have hkl := KL.setF (a := a14) (s := 1) (v := x31) hkl (by (try simp only [i_lt, i_le, i_eq, Int32.toInt_toInt64, Int32.reduceToInt, Int64.reduceToInt, true_and, and_true, false_and, and_false, false_or, or_false, true_or, or_true, not_true_eq_false, not_false_eq_true, ne_eq, forall_const, true_implies, false_implies, implies_true] at hpre w4 hr1 gr1 w8 hr5 gr5 eb11 fb11 tx12 g13 tx14 tx15 c16 tx17 tx18 tx19 tx20 w23 tx24 tx25 tx26 w28 tx29 g30 tx31 ⊢) <;> omega)
      have hp := PX.setI (a := a14) (s := 1) (v := x31) hp (by rw [k_a14]; decide)
      obtain ⟨u32, hu32⟩ : ∃ z, z = pSI u27 a14 1 x31 := ⟨_, rfl⟩
      rw [← hu32] at hP hD hu hp hkl
      have w33 : (u32.2.2.1 a14 1).toInt = x31.toInt := by rw [hu32]; exact congrArg Int32.toInt (if_pos ⟨rfl, rfl⟩)
      exact W.vret hx hb hr (fun t ht hW => ⟨⟨u32, rfl, ⟨hu, hp, hkl, trivial⟩, by rw [ht]; exact hP, hD⟩, hS.F ht⟩) hS.2.2 dX12_readPot_94
    · refine lv_iconst (v := 0) hx hb dX12_readPot_50 (by decide) ?_
      refine lv_goto (tgt := 67) hx hb dX12_readPot_51 (by decide) ?_
      refine lv_iload_n hx hb dX12_readPot_67 rfl (lv_at hl 2 rfl) ?_
      refine lv_isub hx hb dX12_readPot_68 ?_
      refine lv_topi (fun x34 ex34 => ?_)
      have tx34 : x34.toInt = (0 : Int32).toInt - r1.toInt := by rw [ex34]; exact i_sub (by (try simp only [i_lt, i_le, i_eq, Int32.toInt_toInt64, Int32.reduceToInt, Int64.reduceToInt, true_and, and_true, false_and, and_false, false_or, or_false, true_or, or_true, not_true_eq_false, not_false_eq_true, ne_eq, forall_const, true_implies, false_implies, implies_true] at hpre w4 hr1 gr1 w8 hr5 gr5 eb11 fb11 tx12 g13 tx14 tx15 c16 ⊢) <;> omega) (by (try simp only [i_lt, i_le, i_eq, Int32.toInt_toInt64, Int32.reduceToInt, Int64.reduceToInt, true_and, and_true, false_and, and_false, false_or, or_false, true_or, or_true, not_true_eq_false, not_false_eq_true, ne_eq, forall_const, true_implies, false_implies, implies_true] at hpre w4 hr1 gr1 w8 hr5 gr5 eb11 fb11 tx12 g13 tx14 tx15 c16 ⊢) <;> omega)
      refine pasI (u' := pSI u6 a14 (x15.toNatClampNeg) x34) hx hb hK hP hD hS m_a14 (cF51 k_a14) 1 rfl (vp_in_iff.mpr (by (try simp only [i_lt, i_le, i_eq, Int32.toInt_toInt64, Int32.reduceToInt, Int64.reduceToInt, true_and, and_true, false_and, and_false, false_or, or_false, true_or, or_true, not_true_eq_false, not_false_eq_true, ne_eq, forall_const, true_implies, false_implies, implies_true] at hpre w4 hr1 gr1 w8 hr5 gr5 eb11 fb11 tx12 g13 tx14 tx15 c16 tx34 ⊢) <;> omega)) rfl (sF51 k_a14 _ _) dX12_readPot_69 (fun H locs hP hD hS => ?_)
      have hu := WT.setI (a := a14) (s := (x15.toNatClampNeg)) (v := x34) hu (by rw [k_a14]; exact (show okW (x15.toNatClampNeg) x34 from by unfold okW; have z := cl_int (x := x15) (by (try simp only [i_lt, i_le, i_eq, Int32.toInt_toInt64, Int32.reduceToInt, Int64.reduceToInt, true_and, and_true, false_and, and_false, false_or, or_false, true_or, or_true, not_true_eq_false, not_false_eq_true, ne_eq, forall_const, true_implies, false_implies, implies_true] at hpre w4 hr1 gr1 w8 hr5 gr5 eb11 fb11 tx12 g13 tx14 tx15 c16 tx34 ⊢) <;> omega); (try simp only [i_lt, i_le, i_eq, Int32.toInt_toInt64, Int32.reduceToInt, Int64.reduceToInt, true_and, and_true, false_and, and_false, false_or, or_false, true_or, or_true, not_true_eq_false, not_false_eq_true, ne_eq, forall_const, true_implies, false_implies, implies_true] at hpre w4 hr1 gr1 w8 hr5 gr5 eb11 fb11 tx12 g13 tx14 tx15 c16 tx34 z ⊢) <;> omega))
      have hkl := KL.setF (a := a14) (s := (x15.toNatClampNeg)) (v := x34) hkl (by have z := cl_int (x := x15) (by (try simp only [i_lt, i_le, i_eq, Int32.toInt_toInt64, Int32.reduceToInt, Int64.reduceToInt, true_and, and_true, false_and, and_false, false_or, or_false, true_or, or_true, not_true_eq_false, not_false_eq_true, ne_eq, forall_const, true_implies, false_implies, implies_true] at hpre w4 hr1 gr1 w8 hr5 gr5 eb11 fb11 tx12 g13 tx14 tx15 c16 tx34 ⊢) <;> omega); (try simp only [i_lt, i_le, i_eq, Int32.toInt_toInt64, Int32.reduceToInt, Int64.reduceToInt, true_and, and_true, false_and, and_false, false_or, or_false, true_or, or_true, not_true_eq_false, not_false_eq_true, ne_eq, forall_const, true_implies, false_implies, implies_true] at hpre w4 hr1 gr1 w8 hr5 gr5 eb11 fb11 tx12 g13 tx14 tx15 c16 tx34 z ⊢) <;> omega)
      have hp := PX.setI (a := a14) (s := (x15.toNatClampNeg)) (v := x34) hp (by rw [k_a14]; decide)
      obtain ⟨u35, hu35⟩ : ∃ z, z = pSI u6 a14 (x15.toNatClampNeg) x34 := ⟨_, rfl⟩
      rw [← hu35] at hP hD hu hp hkl
      have w36 : (u35.2.2.1 a14 1).toInt = (u6.2.2.1 a14 1).toInt := by rw [hu35]; exact congrArg Int32.toInt (if_neg (fun q => by have y := q.2; have z := cl_int (x := x15) (by (try simp only [i_lt, i_le, i_eq, Int32.toInt_toInt64, Int32.reduceToInt, Int64.reduceToInt, true_and, and_true, false_and, and_false, false_or, or_false, true_or, or_true, not_true_eq_false, not_false_eq_true, ne_eq, forall_const, true_implies, false_implies, implies_true] at hpre w4 hr1 gr1 w8 hr5 gr5 eb11 fb11 tx12 g13 tx14 tx15 c16 tx34 ⊢) <;> omega); (try simp only [i_lt, i_le, i_eq, Int32.toInt_toInt64, Int32.reduceToInt, Int64.reduceToInt, true_and, and_true, false_and, and_false, false_or, or_false, true_or, or_true, not_true_eq_false, not_false_eq_true, ne_eq, forall_const, true_implies, false_implies, implies_true] at hpre w4 hr1 gr1 w8 hr5 gr5 eb11 fb11 tx12 g13 tx14 tx15 c16 tx34 y z ⊢) <;> omega))
      refine lv_aload_n hx hb dX12_readPot_70 rfl (lv_at hl 3 rfl) ?_
      have k_h0 : u35.2.1 h0 = 12 := (hp h0 m0_h0).2.1.trans k0_h0
      have m_h0 : h0 ∈ u35.1 := (hp h0 m0_h0).1
      have k_a14 : u35.2.1 a14 = 51 := (hp a14 m0_a14).2.1.trans k0_a14
      have m_a14 : a14 ∈ u35.1 := (hp a14 m0_a14).1
      refine pget (ci := 12) (v := va_rf (u35.2.2.2.2 h0 14)) (C := RX12) (T := TX12) (N := 34) hx hb hts i_X12 hown hK hP m_h0 (cF12 k_h0) rfl 14 (by decide) (hts (.fieldLink RX12 34 "BellowsRowModel" "fresh" "[I") (by decide +kernel)) (fun _ h9 => h9) rfl dX12_readPot_71 ?_
      refine W.eq (g2 := F0 m 74 ls [.ref a14]) (by rw [(((hp h0 m0_h0).2.2.2.2.2.1 k0_h0 14).trans q0_14)]; rfl) ?_
      refine lv_bipush (v := 10) hx hb dX12_readPot_74 (by decide) ?_
      refine lv_iconst (v := 2) hx hb dX12_readPot_76 (by decide) ?_
      refine lv_iload_n hx hb dX12_readPot_77 rfl (lv_at hl 0 rfl) ?_
      refine lv_imul hx hb dX12_readPot_78 ?_
      refine lv_topi (fun x37 ex37 => ?_)
      have tx37 : x37.toInt = 2 * x12.toInt := by rw [ex37]; exact i_mulc (c := 2) (by decide) ((show 0 ≤ x12.toInt ∧ x12.toInt ≤ 0 from by (try simp only [i_lt, i_le, i_eq, Int32.toInt_toInt64, Int32.reduceToInt, Int64.reduceToInt, true_and, and_true, false_and, and_false, false_or, or_false, true_or, or_true, not_true_eq_false, not_false_eq_true, ne_eq, forall_const, true_implies, false_implies, implies_true] at hpre w4 hr1 gr1 w8 hr5 gr5 eb11 fb11 tx12 g13 tx14 tx15 c16 tx34 w36 ⊢) <;> omega)) (by decide)
      refine lv_iadd hx hb dX12_readPot_79 ?_
      refine lv_topi (fun x38 ex38 => ?_)
      have tx38 : x38.toInt = (10 : Int32).toInt + x37.toInt := by rw [ex38]; exact i_add (by (try simp only [i_lt, i_le, i_eq, Int32.toInt_toInt64, Int32.reduceToInt, Int64.reduceToInt, true_and, and_true, false_and, and_false, false_or, or_false, true_or, or_true, not_true_eq_false, not_false_eq_true, ne_eq, forall_const, true_implies, false_implies, implies_true] at hpre w4 hr1 gr1 w8 hr5 gr5 eb11 fb11 tx12 g13 tx14 tx15 c16 tx34 w36 tx37 ⊢) <;> omega) (by (try simp only [i_lt, i_le, i_eq, Int32.toInt_toInt64, Int32.reduceToInt, Int64.reduceToInt, true_and, and_true, false_and, and_false, false_or, or_false, true_or, or_true, not_true_eq_false, not_false_eq_true, ne_eq, forall_const, true_implies, false_implies, implies_true] at hpre w4 hr1 gr1 w8 hr5 gr5 eb11 fb11 tx12 g13 tx14 tx15 c16 tx34 w36 tx37 ⊢) <;> omega)
      refine lv_iconst (v := 1) hx hb dX12_readPot_80 (by decide) ?_
      refine lv_iadd hx hb dX12_readPot_81 ?_
      refine lv_topi (fun x39 ex39 => ?_)
      have tx39 : x39.toInt = x38.toInt + (1 : Int32).toInt := by rw [ex39]; exact i_add (by (try simp only [i_lt, i_le, i_eq, Int32.toInt_toInt64, Int32.reduceToInt, Int64.reduceToInt, true_and, and_true, false_and, and_false, false_or, or_false, true_or, or_true, not_true_eq_false, not_false_eq_true, ne_eq, forall_const, true_implies, false_implies, implies_true] at hpre w4 hr1 gr1 w8 hr5 gr5 eb11 fb11 tx12 g13 tx14 tx15 c16 tx34 w36 tx37 tx38 ⊢) <;> omega) (by (try simp only [i_lt, i_le, i_eq, Int32.toInt_toInt64, Int32.reduceToInt, Int64.reduceToInt, true_and, and_true, false_and, and_false, false_or, or_false, true_or, or_true, not_true_eq_false, not_false_eq_true, ne_eq, forall_const, true_implies, false_implies, implies_true] at hpre w4 hr1 gr1 w8 hr5 gr5 eb11 fb11 tx12 g13 tx14 tx15 c16 tx34 w36 tx37 tx38 ⊢) <;> omega)
      refine lv_iload_n hx hb dX12_readPot_82 rfl (lv_at hl 1 rfl) ?_
      refine pasI (u' := pSI u35 a14 (x39.toNatClampNeg) r5) hx hb hK hP hD hS m_a14 (cF51 k_a14) 1 rfl (vp_in_iff.mpr (by (try simp only [i_lt, i_le, i_eq, Int32.toInt_toInt64, Int32.reduceToInt, Int64.reduceToInt, true_and, and_true, false_and, and_false, false_or, or_false, true_or, or_true, not_true_eq_false, not_false_eq_true, ne_eq, forall_const, true_implies, false_implies, implies_true] at hpre w4 hr1 gr1 w8 hr5 gr5 eb11 fb11 tx12 g13 tx14 tx15 c16 tx34 w36 tx37 tx38 tx39 ⊢) <;> omega)) rfl (sF51 k_a14 _ _) dX12_readPot_83 (fun H locs hP hD hS => ?_)
      have hu := WT.setI (a := a14) (s := (x39.toNatClampNeg)) (v := r5) hu (by rw [k_a14]; exact (show okW (x39.toNatClampNeg) r5 from by unfold okW; have z := cl_int (x := x39) (by (try simp only [i_lt, i_le, i_eq, Int32.toInt_toInt64, Int32.reduceToInt, Int64.reduceToInt, true_and, and_true, false_and, and_false, false_or, or_false, true_or, or_true, not_true_eq_false, not_false_eq_true, ne_eq, forall_const, true_implies, false_implies, implies_true] at hpre w4 hr1 gr1 w8 hr5 gr5 eb11 fb11 tx12 g13 tx14 tx15 c16 tx34 w36 tx37 tx38 tx39 ⊢) <;> omega); (try simp only [i_lt, i_le, i_eq, Int32.toInt_toInt64, Int32.reduceToInt, Int64.reduceToInt, true_and, and_true, false_and, and_false, false_or, or_false, true_or, or_true, not_true_eq_false, not_false_eq_true, ne_eq, forall_const, true_implies, false_implies, implies_true] at hpre w4 hr1 gr1 w8 hr5 gr5 eb11 fb11 tx12 g13 tx14 tx15 c16 tx34 w36 tx37 tx38 tx39 z ⊢) <;> omega))
      have hkl := KL.setF (a := a14) (s := (x39.toNatClampNeg)) (v := r5) hkl (by have z := cl_int (x := x39) (by (try simp only [i_lt, i_le, i_eq, Int32.toInt_toInt64, Int32.reduceToInt, Int64.reduceToInt, true_and, and_true, false_and, and_false, false_or, or_false, true_or, or_true, not_true_eq_false, not_false_eq_true, ne_eq, forall_const, true_implies, false_implies, implies_true] at hpre w4 hr1 gr1 w8 hr5 gr5 eb11 fb11 tx12 g13 tx14 tx15 c16 tx34 w36 tx37 tx38 tx39 ⊢) <;> omega); (try simp only [i_lt, i_le, i_eq, Int32.toInt_toInt64, Int32.reduceToInt, Int64.reduceToInt, true_and, and_true, false_and, and_false, false_or, or_false, true_or, or_true, not_true_eq_false, not_false_eq_true, ne_eq, forall_const, true_implies, false_implies, implies_true] at hpre w4 hr1 gr1 w8 hr5 gr5 eb11 fb11 tx12 g13 tx14 tx15 c16 tx34 w36 tx37 tx38 tx39 z ⊢) <;> omega)
      have hp := PX.setI (a := a14) (s := (x39.toNatClampNeg)) (v := r5) hp (by rw [k_a14]; decide)
      obtain ⟨u40, hu40⟩ : ∃ z, z = pSI u35 a14 (x39.toNatClampNeg) r5 := ⟨_, rfl⟩
      rw [← hu40] at hP hD hu hp hkl
      have w41 : (u40.2.2.1 a14 1).toInt = (u35.2.2.1 a14 1).toInt := by rw [hu40]; exact congrArg Int32.toInt (if_neg (fun q => by have y := q.2; have z := cl_int (x := x39) (by (try simp only [i_lt, i_le, i_eq, Int32.toInt_toInt64, Int32.reduceToInt, Int64.reduceToInt, true_and, and_true, false_and, and_false, false_or, or_false, true_or, or_true, not_true_eq_false, not_false_eq_true, ne_eq, forall_const, true_implies, false_implies, implies_true] at hpre w4 hr1 gr1 w8 hr5 gr5 eb11 fb11 tx12 g13 tx14 tx15 c16 tx34 w36 tx37 tx38 tx39 ⊢) <;> omega); (try simp only [i_lt, i_le, i_eq, Int32.toInt_toInt64, Int32.reduceToInt, Int64.reduceToInt, true_and, and_true, false_and, and_false, false_or, or_false, true_or, or_true, not_true_eq_false, not_false_eq_true, ne_eq, forall_const, true_implies, false_implies, implies_true] at hpre w4 hr1 gr1 w8 hr5 gr5 eb11 fb11 tx12 g13 tx14 tx15 c16 tx34 w36 tx37 tx38 tx39 y z ⊢) <;> omega))
      refine lv_aload_n hx hb dX12_readPot_84 rfl (lv_at hl 3 rfl) ?_
      have k_h0 : u40.2.1 h0 = 12 := (hp h0 m0_h0).2.1.trans k0_h0
      have m_h0 : h0 ∈ u40.1 := (hp h0 m0_h0).1
      have k_a14 : u40.2.1 a14 = 51 := (hp a14 m0_a14).2.1.trans k0_a14
      have m_a14 : a14 ∈ u40.1 := (hp a14 m0_a14).1
      refine pget (ci := 12) (v := va_rf (u40.2.2.2.2 h0 14)) (C := RX12) (T := TX12) (N := 34) hx hb hts i_X12 hown hK hP m_h0 (cF12 k_h0) rfl 14 (by decide) (hts (.fieldLink RX12 34 "BellowsRowModel" "fresh" "[I") (by decide +kernel)) (fun _ h9 => h9) rfl dX12_readPot_85 ?_
      refine W.eq (g2 := F0 m 88 ls [.ref a14]) (by rw [(((hp h0 m0_h0).2.2.2.2.2.1 k0_h0 14).trans q0_14)]; rfl) ?_
      refine lv_iconst (v := 1) hx hb dX12_readPot_88 (by decide) ?_
      refine lv_dup2_11 hx hb dX12_readPot_89 rfl rfl ?_
      refine palI hx hb hK hP m_a14 (cF51 k_a14) 1 rfl (vp_in_iff.mpr (by decide)) dX12_readPot_90 ?_
      refine lv_topi (fun x42 ex42 => ?_)
      have tx42 : x42.toInt = (u40.2.2.1 a14 1).toInt := congrArg Int32.toInt ex42
      have g43 : 0 ≤ x42.toInt ∧ x42.toInt ≤ 8 := by have g : okI (u40.2.1 a14) (1) (u40.2.2.1 a14 (1)) := (hu a14 m_a14).2.2.2 (1); rw [k_a14, ← (show x42 = u40.2.2.1 a14 (1) from ex42)] at g; have g : okW (1) x42 := g; unfold okW at g; (try simp only [i_lt, i_le, i_eq, Int32.toInt_toInt64, Int32.reduceToInt, Int64.reduceToInt, true_and, and_true, false_and, and_false, false_or, or_false, true_or, or_true, not_true_eq_false, not_false_eq_true, ne_eq, forall_const, true_implies, false_implies, implies_true] at hpre w4 hr1 gr1 w8 hr5 gr5 eb11 fb11 tx12 g13 tx14 tx15 c16 tx34 w36 tx37 tx38 tx39 w41 tx42 g ⊢) <;> omega
      refine lv_iconst (v := 1) hx hb dX12_readPot_91 (by decide) ?_
      refine lv_iadd hx hb dX12_readPot_92 ?_
      refine lv_topi (fun x44 ex44 => ?_)
      have tx44 : x44.toInt = x42.toInt + (1 : Int32).toInt := by rw [ex44]; exact i_add (by (try simp only [i_lt, i_le, i_eq, Int32.toInt_toInt64, Int32.reduceToInt, Int64.reduceToInt, true_and, and_true, false_and, and_false, false_or, or_false, true_or, or_true, not_true_eq_false, not_false_eq_true, ne_eq, forall_const, true_implies, false_implies, implies_true] at hpre w4 hr1 gr1 w8 hr5 gr5 eb11 fb11 tx12 g13 tx14 tx15 c16 tx34 w36 tx37 tx38 tx39 w41 tx42 g43 ⊢) <;> omega) (by (try simp only [i_lt, i_le, i_eq, Int32.toInt_toInt64, Int32.reduceToInt, Int64.reduceToInt, true_and, and_true, false_and, and_false, false_or, or_false, true_or, or_true, not_true_eq_false, not_false_eq_true, ne_eq, forall_const, true_implies, false_implies, implies_true] at hpre w4 hr1 gr1 w8 hr5 gr5 eb11 fb11 tx12 g13 tx14 tx15 c16 tx34 w36 tx37 tx38 tx39 w41 tx42 g43 ⊢) <;> omega)
      refine pasI (u' := pSI u40 a14 1 x44) hx hb hK hP hD hS m_a14 (cF51 k_a14) 1 rfl (vp_in_iff.mpr (by decide)) rfl (sF51 k_a14 _ _) dX12_readPot_93 (fun H locs hP hD hS => ?_)
      have hu := WT.setI (a := a14) (s := 1) (v := x44) hu (by rw [k_a14]; exact (show okW 1 x44 from by unfold okW; (try simp only [i_lt, i_le, i_eq, Int32.toInt_toInt64, Int32.reduceToInt, Int64.reduceToInt, true_and, and_true, false_and, and_false, false_or, or_false, true_or, or_true, not_true_eq_false, not_false_eq_true, ne_eq, forall_const, true_implies, false_implies, implies_true] at hpre w4 hr1 gr1 w8 hr5 gr5 eb11 fb11 tx12 g13 tx14 tx15 c16 tx34 w36 tx37 tx38 tx39 w41 tx42 g43 tx44 ⊢) <;> omega))
      have hkl := KL.setF (a := a14) (s := 1) (v := x44) hkl (by (try simp only [i_lt, i_le, i_eq, Int32.toInt_toInt64, Int32.reduceToInt, Int64.reduceToInt, true_and, and_true, false_and, and_false, false_or, or_false, true_or, or_true, not_true_eq_false, not_false_eq_true, ne_eq, forall_const, true_implies, false_implies, implies_true] at hpre w4 hr1 gr1 w8 hr5 gr5 eb11 fb11 tx12 g13 tx14 tx15 c16 tx34 w36 tx37 tx38 tx39 w41 tx42 g43 tx44 ⊢) <;> omega)
      have hp := PX.setI (a := a14) (s := 1) (v := x44) hp (by rw [k_a14]; decide)
      obtain ⟨u45, hu45⟩ : ∃ z, z = pSI u40 a14 1 x44 := ⟨_, rfl⟩
      rw [← hu45] at hP hD hu hp hkl
      have w46 : (u45.2.2.1 a14 1).toInt = x44.toInt := by rw [hu45]; exact congrArg Int32.toInt (if_pos ⟨rfl, rfl⟩)
      exact W.vret hx hb hr (fun t ht hW => ⟨⟨u45, rfl, ⟨hu, hp, hkl, trivial⟩, by rw [ht]; exact hP, hD⟩, hS.F ht⟩) hS.2.2 dX12_readPot_94
  · have eb47 : r9.toInt = 0 := by rcases hr9 with ⟨q, -⟩ | ⟨q, -⟩; exact q; (exact absurd (c10) (fun w => by rw [w] at q; exact absurd q (by decide)))
    have fb47 : (u6.2.2.1 h0 12).toInt ≠ 0 := by rcases hr9 with ⟨q, r⟩ | ⟨q, r⟩; exact r; exact absurd q (by omega)
    clear hr9
    exact W.vret hx hb hr (fun t ht hW => ⟨⟨u6, rfl, ⟨hu, hp, hkl, trivial⟩, by rw [ht]; exact hP, hD⟩, hS.F ht⟩) hS.2.2 dX12_readPot_28
set_option maxHeartbeats 4000000 in
set_option maxRecDepth 100000 in
theorem t_X12_readMoves (l : Launch) (D : va_G) (k : Nat → ClassId) (tt : TT) (u0 : PSt) (hu : WT u0) (h0 : Nat) (m_h0 : h0 ∈ u0.1) (k_h0 : u0.2.1 h0 = 12) (p1 : Int32) (g_p1 : 26 ≤ p1.toInt ∧ p1.toInt ≤ 290) (hpre : p1.toInt % 24 = 2) (sz : Nat) : Met l yX12_readMoves wsX12_readMoves ({ frames := 6, cells := 0, slots := 0, locals := 128 }) (PreT D k tt sz (PW k u0) [.ref h0, .int p1]) (va_Qv (fun v => WT v ∧ PX u0 v ∧ KH u0 v ∧ (True)) (WB D (va_A (PW k u0) sz) (PW k)) (va_A (PW k u0) sz)) 0 0 (va_A (PW k u0) sz) := by
  refine Met.ofW (cc := cX12_readMoves) (maxL := 5) (ret := none) (by decide) rfl ?_
  intro p e s m args below meth c s₁ B hml hv
  obtain ⟨rfl, hsz, hP, hK, hD0, hN, hE0⟩ := hv
  have hx := B.exec
  have hb := B.bytes
  have hr := B.returns
  have hts := atoms_spec (ws := wsX12_readMoves) B.pre
  have hown : s.vm.findClass RX12 = some m.cls := findClass_of_methodNamed B.named
  have hlocks := B.notSynchronized
  have i_X12 : ∀ w ∈ wsX120, w ∈ wsX12_readMoves := by decide +kernel
  obtain ⟨a14, q0_14, m0_a14, k0_a14⟩ := (hu h0 m_h0).1 14 51 (by rw [k_h0]; rfl)
  have m0_h0 := m_h0
  have k0_h0 := k_h0
  have m_a14 := m0_a14
  have k_a14 := k0_a14
  subst hsz
  have hD := hD0.self (sz := s.heap.size)
  have hE := hE0
  generalize hAe : va_A (PW k u0) s.heap.size = A at hD hE ⊢
  have hA : ∀ q : Nat, s.heap.size ≤ q → A q := fun q h => by rw [← hAe]; exact Or.inr h
  have hS : va_S A s.heap s.heap [] := va_S.rf
  have hp : PX u0 u0 := PX.rf
  have hkh : KH u0 u0 := KH.rf
  have B2 : ∀ (n2 : Nat) (u : PSt) (H : Heap) (locs : List Loc) (ls : Array Slot) (v1 : Int32) (v2 : Int32), WT u → PX u0 u → KH u0 u → va_P D vwCl (PW k u) H → va_D A (PW k u) → va_S A s.heap H locs → (2147483648 - v2.toInt).toNat ≤ n2 → 26 ≤ v1.toInt ∧ v1.toInt ≤ 290 → 0 ≤ v2.toInt ∧ v2.toInt ≤ 8 → (v1.toInt % 24 = 2) → lv_has ls 5 [(0, .ref h0), (1, .int v1), (2, .int v2)] → W p l e (headSpec wsX12_readMoves ({ frames := 6, cells := 0, slots := 0, locals := 128 })).room s m ([.ref h0, .int p1] : List Value).toArray below meth c H locs 0 0 (MQ below (va_Qv (fun v => WT v ∧ PX u0 v ∧ KH u0 v ∧ (True)) (WB D A (PW k)) A) ([.ref h0, .int p1] : List Value).toArray s 0 0 A) (F0 m 2 ls []) := by
    intro n2
    induction n2 with
    | zero =>
      intro u H locs ls v1 v2 hu hp hkh hP hD hS hn2 g_v1 g_v2 ex0 hl
      exact absurd hn2 (by have := Int32.toInt_lt v2; have := Int32.le_toInt v2; omega)
    | succ n2 ih2 =>
      intro u H locs ls v1 v2 hu hp hkh hP hD hS hn2 g_v1 g_v2 ex0 hl
      refine lv_aload_n hx hb dX12_readMoves_2 rfl (lv_at hl 0 rfl) ?_
      have k_h0 : u.2.1 h0 = 12 := (hp h0 m0_h0).2.1.trans k0_h0
      have m_h0 : h0 ∈ u.1 := (hp h0 m0_h0).1
      refine xiV (C := RX12) (As := []) (rest := []) ⟨hx, hb, hml, hown, hts⟩ (fun sz => t_X12_moveHere l D k tt u hu h0 m_h0 k_h0  sz) (cwV 0 hts gX12_readMoves_X12_moveHere rfl rfl rfl (by decide +kernel) ⟨Nat.le_of_ble_eq_true rfl, Nat.le_of_ble_eq_true rfl⟩) hP hK hD hN hE hS hA (precv hK hP m_h0 (cF12 k_h0) rfl) rfl hl.1 rfl (Nat.le_of_ble_eq_true rfl) dX12_readMoves_3 ⟨Nat.le_of_ble_eq_true rfl, Nat.le_of_ble_eq_true rfl⟩ (fun r1 u2 H locs hqu2 hP hD hS => ?_)
      obtain ⟨hu, hxu2, hr1⟩ := hqu2
      have sameu2 : u = u2 := hr1.1.symm
      subst sameu2
      have hr1 := hr1.2
      refine lv_istore_n (lv' := [(3, .int r1), (0, .ref h0), (1, .int v1), (2, .int v2)]) hx hb dX12_readMoves_6 rfl hl (by decide) rfl (fun ls hl => ?_)
      refine lv_iload_n hx hb dX12_readMoves_7 rfl (lv_at hl 3 rfl) ?_
      refine lv_bipush (v := 8) hx hb dX12_readMoves_8 (by decide) ?_
      refine lv_icmp_ne (tgt := 18) hx hb dX12_readMoves_10 (by decide) (fun c3 => ?_) (fun c3 => ?_)
      · refine lv_aload_n hx hb dX12_readMoves_18 rfl (lv_at hl 1 rfl) ?_
        refine lv_iload_n hx hb dX12_readMoves_19 rfl (lv_at hl 0 rfl) ?_
        refine wiV (C := RX12) (As := [.int r1]) (rest := []) ⟨hx, hb, hml, hown, hts⟩ (fun sz => t_X12_taken l D k u hu h0 m_h0 k_h0 r1 sz) (cwV 1 hts gX12_readMoves_X12_taken rfl rfl rfl (by decide +kernel) ⟨Nat.le_of_ble_eq_true rfl, Nat.le_of_ble_eq_true rfl⟩) hP hK hD hN hS hA (precv hK hP m_h0 (cF12 k_h0) rfl) rfl hl.1 rfl (Nat.le_of_ble_eq_true rfl) dX12_readMoves_20 ⟨Nat.le_of_ble_eq_true rfl, Nat.le_of_ble_eq_true rfl⟩ (fun r4 u5 H locs hqu5 hP hD hS => ?_)
        obtain ⟨hu, hxu5, z6, hr4⟩ := hqu5
        have hkh := KH.trans hkh hp z6.toH
        have hp := PX.trans hp hxu5
        refine lv_istore_n (lv' := [(3, .int r4), (0, .ref h0), (1, .int v1), (2, .int v2)]) hx hb dX12_readMoves_23 rfl hl (by decide) rfl (fun ls hl => ?_)
        refine lv_aload_n hx hb dX12_readMoves_24 rfl (lv_at hl 1 rfl) ?_
        refine lv_iconst (v := 1) hx hb dX12_readMoves_25 (by decide) ?_
        refine lv_sipush (v := 900) hx hb dX12_readMoves_26 (by decide) ?_
        have k_h0 : u5.2.1 h0 = 12 := (hp h0 m0_h0).2.1.trans k0_h0
        have m_h0 : h0 ∈ u5.1 := (hp h0 m0_h0).1
        refine wiV (C := RX12) (As := [.int 1, .int 900]) (rest := []) ⟨hx, hb, hml, hown, hts⟩ (fun sz => t_X12_number l D k u5 hu h0 m_h0 k_h0 1 900 sz) (cwV 2 hts gX12_readMoves_X12_number rfl rfl rfl (by decide +kernel) ⟨Nat.le_of_ble_eq_true rfl, Nat.le_of_ble_eq_true rfl⟩) hP hK hD hN hS hA (precv hK hP m_h0 (cF12 k_h0) rfl) rfl hl.1 rfl (Nat.le_of_ble_eq_true rfl) dX12_readMoves_29 ⟨Nat.le_of_ble_eq_true rfl, Nat.le_of_ble_eq_true rfl⟩ (fun r7 u8 H locs hqu8 hP hD hS => ?_)
        obtain ⟨hu, hxu8, z9, hr7⟩ := hqu8
        have hkh := KH.trans hkh hp z9.toH
        have hp := PX.trans hp hxu8
        have gr7 : 0 ≤ r7.toInt ∧ r7.toInt ≤ 900 := by (try simp only [i_lt, i_le, i_eq, Int32.toInt_toInt64, Int32.reduceToInt, Int64.reduceToInt, true_and, and_true, false_and, and_false, false_or, or_false, true_or, or_true, not_true_eq_false, not_false_eq_true, ne_eq, forall_const, true_implies, false_implies, implies_true] at g_v1 g_v2 ex0 hn2 hr1 c3 hr4 hr7 ⊢) <;> omega
        refine lv_istore (lv' := [(4, .int r7), (3, .int r4), (0, .ref h0), (1, .int v1), (2, .int v2)]) hx hb dX12_readMoves_32 hl (by decide) rfl (fun ls hl => ?_)
        refine lv_aload_n hx hb dX12_readMoves_34 rfl (lv_at hl 2 rfl) ?_
        have k_h0 : u8.2.1 h0 = 12 := (hp h0 m0_h0).2.1.trans k0_h0
        have m_h0 : h0 ∈ u8.1 := (hp h0 m0_h0).1
        refine rvi (C := RX12) (As := []) (rest := []) ⟨hx, hb, hml, hown, hts⟩ (t_X12_good l D k u8 hu h0 m_h0 k_h0 ) (cwV 0 hts gX12_readMoves_X12_good rfl rfl rfl (by decide +kernel) ⟨Nat.le_of_ble_eq_true rfl, Nat.le_of_ble_eq_true rfl⟩) hP hK (precv hK hP m_h0 (cF12 k_h0) rfl) rfl hl.1 rfl (Nat.le_of_ble_eq_true rfl) dX12_readMoves_35 ⟨Nat.le_of_ble_eq_true rfl, Nat.le_of_ble_eq_true rfl⟩ (fun r10 hr10 => ?_)
        refine lv_if_ne (tgt := 42) hx hb dX12_readMoves_38 (by decide) (fun c11 => ?_) (fun c11 => ?_)
        · have eb12 : r10.toInt = 1 := by rcases hr10 with ⟨q, -⟩ | ⟨q, -⟩; exact absurd (i_eq.mpr q) c11; exact q
          have fb12 : (u8.2.2.1 h0 12).toInt = 0 := by rcases hr10 with ⟨q, r⟩ | ⟨q, r⟩; exact absurd q (by omega); exact r
          clear hr10
          refine lv_aload_n hx hb dX12_readMoves_42 rfl (lv_at hl 2 rfl) ?_
          have k_a14 : u8.2.1 a14 = 51 := (hp a14 m0_a14).2.1.trans k0_a14
          have m_a14 : a14 ∈ u8.1 := (hp a14 m0_a14).1
          refine pget (ci := 12) (v := va_rf (u8.2.2.2.2 h0 14)) (C := RX12) (T := TX12) (N := 34) hx hb hts i_X12 hown hK hP m_h0 (cF12 k_h0) rfl 14 (by decide) (hts (.fieldLink RX12 34 "BellowsRowModel" "fresh" "[I") (by decide +kernel)) (fun _ h9 => h9) rfl dX12_readMoves_43 ?_
          refine W.eq (g2 := F0 m 46 ls [.ref a14]) (by rw [(((hp h0 m0_h0).2.2.2.2.2.1 k0_h0 14).trans q0_14)]; rfl) ?_
          refine lv_iload_n hx hb dX12_readMoves_46 rfl (lv_at hl 3 rfl) ?_
          refine lv_bipush (v := 8) hx hb dX12_readMoves_47 (by decide) ?_
          refine lv_iadd hx hb dX12_readMoves_49 ?_
          refine lv_topi (fun x13 ex13 => ?_)
          have tx13 : x13.toInt = v1.toInt + (8 : Int32).toInt := by rw [ex13]; exact i_add (by (try simp only [i_lt, i_le, i_eq, Int32.toInt_toInt64, Int32.reduceToInt, Int64.reduceToInt, true_and, and_true, false_and, and_false, false_or, or_false, true_or, or_true, not_true_eq_false, not_false_eq_true, ne_eq, forall_const, true_implies, false_implies, implies_true] at g_v1 g_v2 ex0 hn2 hr1 c3 hr4 hr7 gr7 eb12 fb12 ⊢) <;> omega) (by (try simp only [i_lt, i_le, i_eq, Int32.toInt_toInt64, Int32.reduceToInt, Int64.reduceToInt, true_and, and_true, false_and, and_false, false_or, or_false, true_or, or_true, not_true_eq_false, not_false_eq_true, ne_eq, forall_const, true_implies, false_implies, implies_true] at g_v1 g_v2 ex0 hn2 hr1 c3 hr4 hr7 gr7 eb12 fb12 ⊢) <;> omega)
          refine lv_iconst (v := 2) hx hb dX12_readMoves_50 (by decide) ?_
          refine lv_iload_n hx hb dX12_readMoves_51 rfl (lv_at hl 4 rfl) ?_
          refine lv_imul hx hb dX12_readMoves_52 ?_
          refine lv_topi (fun x14 ex14 => ?_)
          have tx14 : x14.toInt = 2 * v2.toInt := by rw [ex14]; exact i_mulc (c := 2) (by decide) ((show 0 ≤ v2.toInt ∧ v2.toInt ≤ 7 from by (try simp only [i_lt, i_le, i_eq, Int32.toInt_toInt64, Int32.reduceToInt, Int64.reduceToInt, true_and, and_true, false_and, and_false, false_or, or_false, true_or, or_true, not_true_eq_false, not_false_eq_true, ne_eq, forall_const, true_implies, false_implies, implies_true] at g_v1 g_v2 ex0 hn2 hr1 c3 hr4 hr7 gr7 eb12 fb12 tx13 ⊢) <;> omega)) (by decide)
          refine lv_iadd hx hb dX12_readMoves_53 ?_
          refine lv_topi (fun x15 ex15 => ?_)
          have tx15 : x15.toInt = x13.toInt + x14.toInt := by rw [ex15]; exact i_add (by (try simp only [i_lt, i_le, i_eq, Int32.toInt_toInt64, Int32.reduceToInt, Int64.reduceToInt, true_and, and_true, false_and, and_false, false_or, or_false, true_or, or_true, not_true_eq_false, not_false_eq_true, ne_eq, forall_const, true_implies, false_implies, implies_true] at g_v1 g_v2 ex0 hn2 hr1 c3 hr4 hr7 gr7 eb12 fb12 tx13 tx14 ⊢) <;> omega) (by (try simp only [i_lt, i_le, i_eq, Int32.toInt_toInt64, Int32.reduceToInt, Int64.reduceToInt, true_and, and_true, false_and, and_false, false_or, or_false, true_or, or_true, not_true_eq_false, not_false_eq_true, ne_eq, forall_const, true_implies, false_implies, implies_true] at g_v1 g_v2 ex0 hn2 hr1 c3 hr4 hr7 gr7 eb12 fb12 tx13 tx14 ⊢) <;> omega)
          refine lv_iload_n hx hb dX12_readMoves_54 rfl (lv_at hl 1 rfl) ?_
          refine pasI (u' := pSI u8 a14 (x15.toNatClampNeg) r4) hx hb hK hP hD hS m_a14 (cF51 k_a14) 1 rfl (vp_in_iff.mpr (by (try simp only [i_lt, i_le, i_eq, Int32.toInt_toInt64, Int32.reduceToInt, Int64.reduceToInt, true_and, and_true, false_and, and_false, false_or, or_false, true_or, or_true, not_true_eq_false, not_false_eq_true, ne_eq, forall_const, true_implies, false_implies, implies_true] at g_v1 g_v2 ex0 hn2 hr1 c3 hr4 hr7 gr7 eb12 fb12 tx13 tx14 tx15 ⊢) <;> omega)) rfl (sF51 k_a14 _ _) dX12_readMoves_55 (fun H locs hP hD hS => ?_)
          have hu := WT.setI (a := a14) (s := (x15.toNatClampNeg)) (v := r4) hu (by rw [k_a14]; exact (show okW (x15.toNatClampNeg) r4 from by unfold okW; have z := cl_int (x := x15) (by (try simp only [i_lt, i_le, i_eq, Int32.toInt_toInt64, Int32.reduceToInt, Int64.reduceToInt, true_and, and_true, false_and, and_false, false_or, or_false, true_or, or_true, not_true_eq_false, not_false_eq_true, ne_eq, forall_const, true_implies, false_implies, implies_true] at g_v1 g_v2 ex0 hn2 hr1 c3 hr4 hr7 gr7 eb12 fb12 tx13 tx14 tx15 ⊢) <;> omega); (try simp only [i_lt, i_le, i_eq, Int32.toInt_toInt64, Int32.reduceToInt, Int64.reduceToInt, true_and, and_true, false_and, and_false, false_or, or_false, true_or, or_true, not_true_eq_false, not_false_eq_true, ne_eq, forall_const, true_implies, false_implies, implies_true] at g_v1 g_v2 ex0 hn2 hr1 c3 hr4 hr7 gr7 eb12 fb12 tx13 tx14 tx15 z ⊢) <;> omega))
          have hkh := KH.setF (a := a14) (s := (x15.toNatClampNeg)) (v := r4) hkh (by have z := cl_int (x := x15) (by (try simp only [i_lt, i_le, i_eq, Int32.toInt_toInt64, Int32.reduceToInt, Int64.reduceToInt, true_and, and_true, false_and, and_false, false_or, or_false, true_or, or_true, not_true_eq_false, not_false_eq_true, ne_eq, forall_const, true_implies, false_implies, implies_true] at g_v1 g_v2 ex0 hn2 hr1 c3 hr4 hr7 gr7 eb12 fb12 tx13 tx14 tx15 ⊢) <;> omega); (try simp only [i_lt, i_le, i_eq, Int32.toInt_toInt64, Int32.reduceToInt, Int64.reduceToInt, true_and, and_true, false_and, and_false, false_or, or_false, true_or, or_true, not_true_eq_false, not_false_eq_true, ne_eq, forall_const, true_implies, false_implies, implies_true] at g_v1 g_v2 ex0 hn2 hr1 c3 hr4 hr7 gr7 eb12 fb12 tx13 tx14 tx15 z ⊢) <;> omega)
          have hp := PX.setI (a := a14) (s := (x15.toNatClampNeg)) (v := r4) hp (by rw [k_a14]; decide)
          obtain ⟨u16, hu16⟩ : ∃ z, z = pSI u8 a14 (x15.toNatClampNeg) r4 := ⟨_, rfl⟩
          rw [← hu16] at hP hD hu hp hkh
          have w17 : (u16.2.2.1 h0 12).toInt = (u8.2.2.1 h0 12).toInt := by rw [hu16]; exact congrArg Int32.toInt (if_neg (fun q => by have y := q.1; have z := k_h0; rw [y, k_a14] at z; exact absurd z (by decide)))
          refine lv_aload_n hx hb dX12_readMoves_56 rfl (lv_at hl 2 rfl) ?_
          have k_h0 : u16.2.1 h0 = 12 := (hp h0 m0_h0).2.1.trans k0_h0
          have m_h0 : h0 ∈ u16.1 := (hp h0 m0_h0).1
          have k_a14 : u16.2.1 a14 = 51 := (hp a14 m0_a14).2.1.trans k0_a14
          have m_a14 : a14 ∈ u16.1 := (hp a14 m0_a14).1
          refine pget (ci := 12) (v := va_rf (u16.2.2.2.2 h0 14)) (C := RX12) (T := TX12) (N := 34) hx hb hts i_X12 hown hK hP m_h0 (cF12 k_h0) rfl 14 (by decide) (hts (.fieldLink RX12 34 "BellowsRowModel" "fresh" "[I") (by decide +kernel)) (fun _ h9 => h9) rfl dX12_readMoves_57 ?_
          refine W.eq (g2 := F0 m 60 ls [.ref a14]) (by rw [(((hp h0 m0_h0).2.2.2.2.2.1 k0_h0 14).trans q0_14)]; rfl) ?_
          refine lv_iload_n hx hb dX12_readMoves_60 rfl (lv_at hl 3 rfl) ?_
          refine lv_bipush (v := 8) hx hb dX12_readMoves_61 (by decide) ?_
          refine lv_iadd hx hb dX12_readMoves_63 ?_
          refine lv_topi (fun x18 ex18 => ?_)
          have tx18 : x18.toInt = v1.toInt + (8 : Int32).toInt := by rw [ex18]; exact i_add (by (try simp only [i_lt, i_le, i_eq, Int32.toInt_toInt64, Int32.reduceToInt, Int64.reduceToInt, true_and, and_true, false_and, and_false, false_or, or_false, true_or, or_true, not_true_eq_false, not_false_eq_true, ne_eq, forall_const, true_implies, false_implies, implies_true] at g_v1 g_v2 ex0 hn2 hr1 c3 hr4 hr7 gr7 eb12 fb12 tx13 tx14 tx15 w17 ⊢) <;> omega) (by (try simp only [i_lt, i_le, i_eq, Int32.toInt_toInt64, Int32.reduceToInt, Int64.reduceToInt, true_and, and_true, false_and, and_false, false_or, or_false, true_or, or_true, not_true_eq_false, not_false_eq_true, ne_eq, forall_const, true_implies, false_implies, implies_true] at g_v1 g_v2 ex0 hn2 hr1 c3 hr4 hr7 gr7 eb12 fb12 tx13 tx14 tx15 w17 ⊢) <;> omega)
          refine lv_iconst (v := 2) hx hb dX12_readMoves_64 (by decide) ?_
          refine lv_iload_n hx hb dX12_readMoves_65 rfl (lv_at hl 4 rfl) ?_
          refine lv_imul hx hb dX12_readMoves_66 ?_
          refine lv_topi (fun x19 ex19 => ?_)
          have tx19 : x19.toInt = 2 * v2.toInt := by rw [ex19]; exact i_mulc (c := 2) (by decide) ((show 0 ≤ v2.toInt ∧ v2.toInt ≤ 7 from by (try simp only [i_lt, i_le, i_eq, Int32.toInt_toInt64, Int32.reduceToInt, Int64.reduceToInt, true_and, and_true, false_and, and_false, false_or, or_false, true_or, or_true, not_true_eq_false, not_false_eq_true, ne_eq, forall_const, true_implies, false_implies, implies_true] at g_v1 g_v2 ex0 hn2 hr1 c3 hr4 hr7 gr7 eb12 fb12 tx13 tx14 tx15 w17 tx18 ⊢) <;> omega)) (by decide)
          refine lv_iadd hx hb dX12_readMoves_67 ?_
          refine lv_topi (fun x20 ex20 => ?_)
          have tx20 : x20.toInt = x18.toInt + x19.toInt := by rw [ex20]; exact i_add (by (try simp only [i_lt, i_le, i_eq, Int32.toInt_toInt64, Int32.reduceToInt, Int64.reduceToInt, true_and, and_true, false_and, and_false, false_or, or_false, true_or, or_true, not_true_eq_false, not_false_eq_true, ne_eq, forall_const, true_implies, false_implies, implies_true] at g_v1 g_v2 ex0 hn2 hr1 c3 hr4 hr7 gr7 eb12 fb12 tx13 tx14 tx15 w17 tx18 tx19 ⊢) <;> omega) (by (try simp only [i_lt, i_le, i_eq, Int32.toInt_toInt64, Int32.reduceToInt, Int64.reduceToInt, true_and, and_true, false_and, and_false, false_or, or_false, true_or, or_true, not_true_eq_false, not_false_eq_true, ne_eq, forall_const, true_implies, false_implies, implies_true] at g_v1 g_v2 ex0 hn2 hr1 c3 hr4 hr7 gr7 eb12 fb12 tx13 tx14 tx15 w17 tx18 tx19 ⊢) <;> omega)
          refine lv_iconst (v := 1) hx hb dX12_readMoves_68 (by decide) ?_
          refine lv_iadd hx hb dX12_readMoves_69 ?_
          refine lv_topi (fun x21 ex21 => ?_)
          have tx21 : x21.toInt = x20.toInt + (1 : Int32).toInt := by rw [ex21]; exact i_add (by (try simp only [i_lt, i_le, i_eq, Int32.toInt_toInt64, Int32.reduceToInt, Int64.reduceToInt, true_and, and_true, false_and, and_false, false_or, or_false, true_or, or_true, not_true_eq_false, not_false_eq_true, ne_eq, forall_const, true_implies, false_implies, implies_true] at g_v1 g_v2 ex0 hn2 hr1 c3 hr4 hr7 gr7 eb12 fb12 tx13 tx14 tx15 w17 tx18 tx19 tx20 ⊢) <;> omega) (by (try simp only [i_lt, i_le, i_eq, Int32.toInt_toInt64, Int32.reduceToInt, Int64.reduceToInt, true_and, and_true, false_and, and_false, false_or, or_false, true_or, or_true, not_true_eq_false, not_false_eq_true, ne_eq, forall_const, true_implies, false_implies, implies_true] at g_v1 g_v2 ex0 hn2 hr1 c3 hr4 hr7 gr7 eb12 fb12 tx13 tx14 tx15 w17 tx18 tx19 tx20 ⊢) <;> omega)
          refine lv_iload hx hb dX12_readMoves_70 (lv_at hl 0 rfl) ?_
          refine pasI (u' := pSI u16 a14 (x21.toNatClampNeg) r7) hx hb hK hP hD hS m_a14 (cF51 k_a14) 1 rfl (vp_in_iff.mpr (by (try simp only [i_lt, i_le, i_eq, Int32.toInt_toInt64, Int32.reduceToInt, Int64.reduceToInt, true_and, and_true, false_and, and_false, false_or, or_false, true_or, or_true, not_true_eq_false, not_false_eq_true, ne_eq, forall_const, true_implies, false_implies, implies_true] at g_v1 g_v2 ex0 hn2 hr1 c3 hr4 hr7 gr7 eb12 fb12 tx13 tx14 tx15 w17 tx18 tx19 tx20 tx21 ⊢) <;> omega)) rfl (sF51 k_a14 _ _) dX12_readMoves_72 (fun H locs hP hD hS => ?_)
          have hu := WT.setI (a := a14) (s := (x21.toNatClampNeg)) (v := r7) hu (by rw [k_a14]; exact (show okW (x21.toNatClampNeg) r7 from by unfold okW; have z := cl_int (x := x21) (by (try simp only [i_lt, i_le, i_eq, Int32.toInt_toInt64, Int32.reduceToInt, Int64.reduceToInt, true_and, and_true, false_and, and_false, false_or, or_false, true_or, or_true, not_true_eq_false, not_false_eq_true, ne_eq, forall_const, true_implies, false_implies, implies_true] at g_v1 g_v2 ex0 hn2 hr1 c3 hr4 hr7 gr7 eb12 fb12 tx13 tx14 tx15 w17 tx18 tx19 tx20 tx21 ⊢) <;> omega); (try simp only [i_lt, i_le, i_eq, Int32.toInt_toInt64, Int32.reduceToInt, Int64.reduceToInt, true_and, and_true, false_and, and_false, false_or, or_false, true_or, or_true, not_true_eq_false, not_false_eq_true, ne_eq, forall_const, true_implies, false_implies, implies_true] at g_v1 g_v2 ex0 hn2 hr1 c3 hr4 hr7 gr7 eb12 fb12 tx13 tx14 tx15 w17 tx18 tx19 tx20 tx21 z ⊢) <;> omega))
          have hkh := KH.setF (a := a14) (s := (x21.toNatClampNeg)) (v := r7) hkh (by have z := cl_int (x := x21) (by (try simp only [i_lt, i_le, i_eq, Int32.toInt_toInt64, Int32.reduceToInt, Int64.reduceToInt, true_and, and_true, false_and, and_false, false_or, or_false, true_or, or_true, not_true_eq_false, not_false_eq_true, ne_eq, forall_const, true_implies, false_implies, implies_true] at g_v1 g_v2 ex0 hn2 hr1 c3 hr4 hr7 gr7 eb12 fb12 tx13 tx14 tx15 w17 tx18 tx19 tx20 tx21 ⊢) <;> omega); (try simp only [i_lt, i_le, i_eq, Int32.toInt_toInt64, Int32.reduceToInt, Int64.reduceToInt, true_and, and_true, false_and, and_false, false_or, or_false, true_or, or_true, not_true_eq_false, not_false_eq_true, ne_eq, forall_const, true_implies, false_implies, implies_true] at g_v1 g_v2 ex0 hn2 hr1 c3 hr4 hr7 gr7 eb12 fb12 tx13 tx14 tx15 w17 tx18 tx19 tx20 tx21 z ⊢) <;> omega)
          have hp := PX.setI (a := a14) (s := (x21.toNatClampNeg)) (v := r7) hp (by rw [k_a14]; decide)
          obtain ⟨u22, hu22⟩ : ∃ z, z = pSI u16 a14 (x21.toNatClampNeg) r7 := ⟨_, rfl⟩
          rw [← hu22] at hP hD hu hp hkh
          have w23 : (u22.2.2.1 h0 12).toInt = (u16.2.2.1 h0 12).toInt := by rw [hu22]; exact congrArg Int32.toInt (if_neg (fun q => by have y := q.1; have z := k_h0; rw [y, k_a14] at z; exact absurd z (by decide)))
          obtain ⟨x24, ex24⟩ : ∃ y : Int32, y = v2 + 1 := ⟨_, rfl⟩
          have tx24 : x24.toInt = v2.toInt + 1 := by rw [ex24]; exact i_add (b := 1) (by (try simp only [i_lt, i_le, i_eq, Int32.toInt_toInt64, Int32.reduceToInt, Int64.reduceToInt, true_and, and_true, false_and, and_false, false_or, or_false, true_or, or_true, not_true_eq_false, not_false_eq_true, ne_eq, forall_const, true_implies, false_implies, implies_true] at g_v1 g_v2 ex0 hn2 hr1 c3 hr4 hr7 gr7 eb12 fb12 tx13 tx14 tx15 w17 tx18 tx19 tx20 tx21 w23 ⊢) <;> omega) (by (try simp only [i_lt, i_le, i_eq, Int32.toInt_toInt64, Int32.reduceToInt, Int64.reduceToInt, true_and, and_true, false_and, and_false, false_or, or_false, true_or, or_true, not_true_eq_false, not_false_eq_true, ne_eq, forall_const, true_implies, false_implies, implies_true] at g_v1 g_v2 ex0 hn2 hr1 c3 hr4 hr7 gr7 eb12 fb12 tx13 tx14 tx15 w17 tx18 tx19 tx20 tx21 w23 ⊢) <;> omega)
          refine lv_iinc (v := x24) (lv' := [(2, .int x24), (4, .int r7), (3, .int r4), (0, .ref h0), (1, .int v1)]) hx hb dX12_readMoves_73 hl (k := 4) rfl (by rw [ex24]; rfl) (by decide) rfl (fun ls hl => ?_)
          refine lv_aload_n hx hb dX12_readMoves_76 rfl (lv_at hl 3 rfl) ?_
          have k_h0 : u22.2.1 h0 = 12 := (hp h0 m0_h0).2.1.trans k0_h0
          have m_h0 : h0 ∈ u22.1 := (hp h0 m0_h0).1
          refine xiV (C := RX12) (As := []) (rest := []) ⟨hx, hb, hml, hown, hts⟩ (fun sz => t_X12_moveHere l D k tt u22 hu h0 m_h0 k_h0  sz) (cwV 0 hts gX12_readMoves_X12_moveHere rfl rfl rfl (by decide +kernel) ⟨Nat.le_of_ble_eq_true rfl, Nat.le_of_ble_eq_true rfl⟩) hP hK hD hN hE hS hA (precv hK hP m_h0 (cF12 k_h0) rfl) rfl hl.1 rfl (Nat.le_of_ble_eq_true rfl) dX12_readMoves_77 ⟨Nat.le_of_ble_eq_true rfl, Nat.le_of_ble_eq_true rfl⟩ (fun r25 u26 H locs hqu26 hP hD hS => ?_)
          obtain ⟨hu, hxu26, hr25⟩ := hqu26
          have sameu26 : u22 = u26 := hr25.1.symm
          subst sameu26
          have hr25 := hr25.2
          refine lv_iconst (v := (-1)) hx hb dX12_readMoves_80 (by decide) ?_
          refine lv_icmp_ne (tgt := 2) hx hb dX12_readMoves_81 (by decide) (fun c27 => ?_) (fun c27 => ?_)
          · exact ih2 _ _ _ ls v1 x24 hu hp hkh hP hD hS (by (try simp only [i_lt, i_le, i_eq, Int32.toInt_toInt64, Int32.reduceToInt, Int64.reduceToInt, true_and, and_true, false_and, and_false, false_or, or_false, true_or, or_true, not_true_eq_false, not_false_eq_true, ne_eq, forall_const, true_implies, false_implies, implies_true] at g_v1 g_v2 ex0 hn2 hr1 c3 hr4 hr7 gr7 eb12 fb12 tx13 tx14 tx15 w17 tx18 tx19 tx20 tx21 w23 tx24 hr25 c27 ⊢) <;> omega) (by (try simp only [i_lt, i_le, i_eq, Int32.toInt_toInt64, Int32.reduceToInt, Int64.reduceToInt, true_and, and_true, false_and, and_false, false_or, or_false, true_or, or_true, not_true_eq_false, not_false_eq_true, ne_eq, forall_const, true_implies, false_implies, implies_true] at g_v1 g_v2 ex0 hn2 hr1 c3 hr4 hr7 gr7 eb12 fb12 tx13 tx14 tx15 w17 tx18 tx19 tx20 tx21 w23 tx24 hr25 c27 ⊢) <;> omega) (by (try simp only [i_lt, i_le, i_eq, Int32.toInt_toInt64, Int32.reduceToInt, Int64.reduceToInt, true_and, and_true, false_and, and_false, false_or, or_false, true_or, or_true, not_true_eq_false, not_false_eq_true, ne_eq, forall_const, true_implies, false_implies, implies_true] at g_v1 g_v2 ex0 hn2 hr1 c3 hr4 hr7 gr7 eb12 fb12 tx13 tx14 tx15 w17 tx18 tx19 tx20 tx21 w23 tx24 hr25 c27 ⊢) <;> omega) (by (try simp only [i_lt, i_le, i_eq, Int32.toInt_toInt64, Int32.reduceToInt, Int64.reduceToInt, true_and, and_true, false_and, and_false, false_or, or_false, true_or, or_true, not_true_eq_false, not_false_eq_true, ne_eq, forall_const, true_implies, false_implies, implies_true] at g_v1 g_v2 ex0 hn2 hr1 c3 hr4 hr7 gr7 eb12 fb12 tx13 tx14 tx15 w17 tx18 tx19 tx20 tx21 w23 tx24 hr25 c27 ⊢) <;> omega) (lv_sub hl [3, 4, 0] rfl)
          · refine lv_aload_n hx hb dX12_readMoves_84 rfl (lv_at hl 3 rfl) ?_
            have k_a14 : u22.2.1 a14 = 51 := (hp a14 m0_a14).2.1.trans k0_a14
            have m_a14 : a14 ∈ u22.1 := (hp a14 m0_a14).1
            refine pget (ci := 12) (v := va_rf (u22.2.2.2.2 h0 14)) (C := RX12) (T := TX12) (N := 34) hx hb hts i_X12 hown hK hP m_h0 (cF12 k_h0) rfl 14 (by decide) (hts (.fieldLink RX12 34 "BellowsRowModel" "fresh" "[I") (by decide +kernel)) (fun _ h9 => h9) rfl dX12_readMoves_85 ?_
            refine W.eq (g2 := F0 m 88 ls [.ref a14]) (by rw [(((hp h0 m0_h0).2.2.2.2.2.1 k0_h0 14).trans q0_14)]; rfl) ?_
            refine lv_iload_n hx hb dX12_readMoves_88 rfl (lv_at hl 4 rfl) ?_
            refine lv_iconst (v := 3) hx hb dX12_readMoves_89 (by decide) ?_
            refine lv_iadd hx hb dX12_readMoves_90 ?_
            refine lv_topi (fun x28 ex28 => ?_)
            have tx28 : x28.toInt = v1.toInt + (3 : Int32).toInt := by rw [ex28]; exact i_add (by (try simp only [i_lt, i_le, i_eq, Int32.toInt_toInt64, Int32.reduceToInt, Int64.reduceToInt, true_and, and_true, false_and, and_false, false_or, or_false, true_or, or_true, not_true_eq_false, not_false_eq_true, ne_eq, forall_const, true_implies, false_implies, implies_true] at g_v1 g_v2 ex0 hn2 hr1 c3 hr4 hr7 gr7 eb12 fb12 tx13 tx14 tx15 w17 tx18 tx19 tx20 tx21 w23 tx24 hr25 c27 ⊢) <;> omega) (by (try simp only [i_lt, i_le, i_eq, Int32.toInt_toInt64, Int32.reduceToInt, Int64.reduceToInt, true_and, and_true, false_and, and_false, false_or, or_false, true_or, or_true, not_true_eq_false, not_false_eq_true, ne_eq, forall_const, true_implies, false_implies, implies_true] at g_v1 g_v2 ex0 hn2 hr1 c3 hr4 hr7 gr7 eb12 fb12 tx13 tx14 tx15 w17 tx18 tx19 tx20 tx21 w23 tx24 hr25 c27 ⊢) <;> omega)
            refine lv_iload_n hx hb dX12_readMoves_91 rfl (lv_at hl 0 rfl) ?_
            refine pasI (u' := pSI u22 a14 (x28.toNatClampNeg) x24) hx hb hK hP hD hS m_a14 (cF51 k_a14) 1 rfl (vp_in_iff.mpr (by (try simp only [i_lt, i_le, i_eq, Int32.toInt_toInt64, Int32.reduceToInt, Int64.reduceToInt, true_and, and_true, false_and, and_false, false_or, or_false, true_or, or_true, not_true_eq_false, not_false_eq_true, ne_eq, forall_const, true_implies, false_implies, implies_true] at g_v1 g_v2 ex0 hn2 hr1 c3 hr4 hr7 gr7 eb12 fb12 tx13 tx14 tx15 w17 tx18 tx19 tx20 tx21 w23 tx24 hr25 c27 tx28 ⊢) <;> omega)) rfl (sF51 k_a14 _ _) dX12_readMoves_92 (fun H locs hP hD hS => ?_)
            have hu := WT.setI (a := a14) (s := (x28.toNatClampNeg)) (v := x24) hu (by rw [k_a14]; exact (show okW (x28.toNatClampNeg) x24 from by unfold okW; have z := cl_int (x := x28) (by (try simp only [i_lt, i_le, i_eq, Int32.toInt_toInt64, Int32.reduceToInt, Int64.reduceToInt, true_and, and_true, false_and, and_false, false_or, or_false, true_or, or_true, not_true_eq_false, not_false_eq_true, ne_eq, forall_const, true_implies, false_implies, implies_true] at g_v1 g_v2 ex0 hn2 hr1 c3 hr4 hr7 gr7 eb12 fb12 tx13 tx14 tx15 w17 tx18 tx19 tx20 tx21 w23 tx24 hr25 c27 tx28 ⊢) <;> omega); (try simp only [i_lt, i_le, i_eq, Int32.toInt_toInt64, Int32.reduceToInt, Int64.reduceToInt, true_and, and_true, false_and, and_false, false_or, or_false, true_or, or_true, not_true_eq_false, not_false_eq_true, ne_eq, forall_const, true_implies, false_implies, implies_true] at g_v1 g_v2 ex0 hn2 hr1 c3 hr4 hr7 gr7 eb12 fb12 tx13 tx14 tx15 w17 tx18 tx19 tx20 tx21 w23 tx24 hr25 c27 tx28 z ⊢) <;> omega))
            have hkh := KH.setF (a := a14) (s := (x28.toNatClampNeg)) (v := x24) hkh (by have z := cl_int (x := x28) (by (try simp only [i_lt, i_le, i_eq, Int32.toInt_toInt64, Int32.reduceToInt, Int64.reduceToInt, true_and, and_true, false_and, and_false, false_or, or_false, true_or, or_true, not_true_eq_false, not_false_eq_true, ne_eq, forall_const, true_implies, false_implies, implies_true] at g_v1 g_v2 ex0 hn2 hr1 c3 hr4 hr7 gr7 eb12 fb12 tx13 tx14 tx15 w17 tx18 tx19 tx20 tx21 w23 tx24 hr25 c27 tx28 ⊢) <;> omega); (try simp only [i_lt, i_le, i_eq, Int32.toInt_toInt64, Int32.reduceToInt, Int64.reduceToInt, true_and, and_true, false_and, and_false, false_or, or_false, true_or, or_true, not_true_eq_false, not_false_eq_true, ne_eq, forall_const, true_implies, false_implies, implies_true] at g_v1 g_v2 ex0 hn2 hr1 c3 hr4 hr7 gr7 eb12 fb12 tx13 tx14 tx15 w17 tx18 tx19 tx20 tx21 w23 tx24 hr25 c27 tx28 z ⊢) <;> omega)
            have hp := PX.setI (a := a14) (s := (x28.toNatClampNeg)) (v := x24) hp (by rw [k_a14]; decide)
            obtain ⟨u29, hu29⟩ : ∃ z, z = pSI u22 a14 (x28.toNatClampNeg) x24 := ⟨_, rfl⟩
            rw [← hu29] at hP hD hu hp hkh
            have w30 : (u29.2.2.1 h0 12).toInt = (u22.2.2.1 h0 12).toInt := by rw [hu29]; exact congrArg Int32.toInt (if_neg (fun q => by have y := q.1; have z := k_h0; rw [y, k_a14] at z; exact absurd z (by decide)))
            exact W.vret hx hb hr (fun t ht hW => ⟨⟨u29, rfl, ⟨hu, hp, hkh, trivial⟩, by rw [ht]; exact hP, hD⟩, hS.F ht⟩) hS.2.2 dX12_readMoves_93
        · have eb31 : r10.toInt = 0 := by rcases hr10 with ⟨q, -⟩ | ⟨q, -⟩; exact q; (exact absurd (c11) (fun w => by rw [w] at q; exact absurd q (by decide)))
          have fb31 : (u8.2.2.1 h0 12).toInt ≠ 0 := by rcases hr10 with ⟨q, r⟩ | ⟨q, r⟩; exact r; exact absurd q (by omega)
          clear hr10
          exact W.vret hx hb hr (fun t ht hW => ⟨⟨u8, rfl, ⟨hu, hp, hkh, trivial⟩, by rw [ht]; exact hP, hD⟩, hS.F ht⟩) hS.2.2 dX12_readMoves_41
      · refine lv_aload_n hx hb dX12_readMoves_13 rfl (lv_at hl 1 rfl) ?_
        refine lv_iconst (v := 3) hx hb dX12_readMoves_14 (by decide) ?_
        refine wvV (C := RX12) (As := [.int 3]) (rest := []) ⟨hx, hb, hml, hown, hts⟩ (fun sz => t_X12_errs l D k u hu h0 m_h0 k_h0 3 (by decide) sz) (cwV 1 hts gX12_readMoves_X12_errs rfl rfl rfl (by decide +kernel) ⟨Nat.le_of_ble_eq_true rfl, Nat.le_of_ble_eq_true rfl⟩) hP hK hD hN hS hA (precv hK hP m_h0 (cF12 k_h0) rfl) rfl hl.1 rfl (Nat.le_of_ble_eq_true rfl) dX12_readMoves_15 ⟨Nat.le_of_ble_eq_true rfl, Nat.le_of_ble_eq_true rfl⟩ (fun u33 H locs hqu33 hP hD hS => ?_)
        obtain ⟨hu, hxu33, z34, hr32⟩ := hqu33
        have hkh := KH.trans hkh hp z34.toH
        have hp := PX.trans hp hxu33
        refine lv_aload_n hx hb dX12_readMoves_18 rfl (lv_at hl 1 rfl) ?_
        refine lv_iload_n hx hb dX12_readMoves_19 rfl (lv_at hl 0 rfl) ?_
        have k_h0 : u33.2.1 h0 = 12 := (hp h0 m0_h0).2.1.trans k0_h0
        have m_h0 : h0 ∈ u33.1 := (hp h0 m0_h0).1
        refine wiV (C := RX12) (As := [.int r1]) (rest := []) ⟨hx, hb, hml, hown, hts⟩ (fun sz => t_X12_taken l D k u33 hu h0 m_h0 k_h0 r1 sz) (cwV 1 hts gX12_readMoves_X12_taken rfl rfl rfl (by decide +kernel) ⟨Nat.le_of_ble_eq_true rfl, Nat.le_of_ble_eq_true rfl⟩) hP hK hD hN hS hA (precv hK hP m_h0 (cF12 k_h0) rfl) rfl hl.1 rfl (Nat.le_of_ble_eq_true rfl) dX12_readMoves_20 ⟨Nat.le_of_ble_eq_true rfl, Nat.le_of_ble_eq_true rfl⟩ (fun r35 u36 H locs hqu36 hP hD hS => ?_)
        obtain ⟨hu, hxu36, z37, hr35⟩ := hqu36
        have hkh := KH.trans hkh hp z37.toH
        have hp := PX.trans hp hxu36
        refine lv_istore_n (lv' := [(3, .int r35), (0, .ref h0), (1, .int v1), (2, .int v2)]) hx hb dX12_readMoves_23 rfl hl (by decide) rfl (fun ls hl => ?_)
        refine lv_aload_n hx hb dX12_readMoves_24 rfl (lv_at hl 1 rfl) ?_
        refine lv_iconst (v := 1) hx hb dX12_readMoves_25 (by decide) ?_
        refine lv_sipush (v := 900) hx hb dX12_readMoves_26 (by decide) ?_
        have k_h0 : u36.2.1 h0 = 12 := (hp h0 m0_h0).2.1.trans k0_h0
        have m_h0 : h0 ∈ u36.1 := (hp h0 m0_h0).1
        refine wiV (C := RX12) (As := [.int 1, .int 900]) (rest := []) ⟨hx, hb, hml, hown, hts⟩ (fun sz => t_X12_number l D k u36 hu h0 m_h0 k_h0 1 900 sz) (cwV 2 hts gX12_readMoves_X12_number rfl rfl rfl (by decide +kernel) ⟨Nat.le_of_ble_eq_true rfl, Nat.le_of_ble_eq_true rfl⟩) hP hK hD hN hS hA (precv hK hP m_h0 (cF12 k_h0) rfl) rfl hl.1 rfl (Nat.le_of_ble_eq_true rfl) dX12_readMoves_29 ⟨Nat.le_of_ble_eq_true rfl, Nat.le_of_ble_eq_true rfl⟩ (fun r38 u39 H locs hqu39 hP hD hS => ?_)
        obtain ⟨hu, hxu39, z40, hr38⟩ := hqu39
        have hkh := KH.trans hkh hp z40.toH
        have hp := PX.trans hp hxu39
        have gr38 : 0 ≤ r38.toInt ∧ r38.toInt ≤ 900 := by (try simp only [i_lt, i_le, i_eq, Int32.toInt_toInt64, Int32.reduceToInt, Int64.reduceToInt, true_and, and_true, false_and, and_false, false_or, or_false, true_or, or_true, not_true_eq_false, not_false_eq_true, ne_eq, forall_const, true_implies, false_implies, implies_true] at g_v1 g_v2 ex0 hn2 hr1 c3 hr32 hr35 hr38 ⊢) <;> omega
        refine lv_istore (lv' := [(4, .int r38), (3, .int r35), (0, .ref h0), (1, .int v1), (2, .int v2)]) hx hb dX12_readMoves_32 hl (by decide) rfl (fun ls hl => ?_)
        refine lv_aload_n hx hb dX12_readMoves_34 rfl (lv_at hl 2 rfl) ?_
        have k_h0 : u39.2.1 h0 = 12 := (hp h0 m0_h0).2.1.trans k0_h0
        have m_h0 : h0 ∈ u39.1 := (hp h0 m0_h0).1
        refine rvi (C := RX12) (As := []) (rest := []) ⟨hx, hb, hml, hown, hts⟩ (t_X12_good l D k u39 hu h0 m_h0 k_h0 ) (cwV 0 hts gX12_readMoves_X12_good rfl rfl rfl (by decide +kernel) ⟨Nat.le_of_ble_eq_true rfl, Nat.le_of_ble_eq_true rfl⟩) hP hK (precv hK hP m_h0 (cF12 k_h0) rfl) rfl hl.1 rfl (Nat.le_of_ble_eq_true rfl) dX12_readMoves_35 ⟨Nat.le_of_ble_eq_true rfl, Nat.le_of_ble_eq_true rfl⟩ (fun r41 hr41 => ?_)
        refine lv_if_ne (tgt := 42) hx hb dX12_readMoves_38 (by decide) (fun c42 => ?_) (fun c42 => ?_)
        · have eb43 : r41.toInt = 1 := by rcases hr41 with ⟨q, -⟩ | ⟨q, -⟩; exact absurd (i_eq.mpr q) c42; exact q
          have fb43 : (u39.2.2.1 h0 12).toInt = 0 := by rcases hr41 with ⟨q, r⟩ | ⟨q, r⟩; exact absurd q (by omega); exact r
          clear hr41
          exact absurd fb43 (by (try simp only [i_lt, i_le, i_eq, Int32.toInt_toInt64, Int32.reduceToInt, Int64.reduceToInt, true_and, and_true, false_and, and_false, false_or, or_false, true_or, or_true, not_true_eq_false, not_false_eq_true, ne_eq, forall_const, true_implies, false_implies, implies_true] at g_v1 g_v2 ex0 hn2 hr1 c3 hr32 hr35 hr38 gr38 hr41 ⊢) <;> omega)
        · have eb44 : r41.toInt = 0 := by rcases hr41 with ⟨q, -⟩ | ⟨q, -⟩; exact q; (exact absurd (c42) (fun w => by rw [w] at q; exact absurd q (by decide)))
          have fb44 : (u39.2.2.1 h0 12).toInt ≠ 0 := by rcases hr41 with ⟨q, r⟩ | ⟨q, r⟩; exact r; exact absurd q (by omega)
          clear hr41
          exact W.vret hx hb hr (fun t ht hW => ⟨⟨u39, rfl, ⟨hu, hp, hkh, trivial⟩, by rw [ht]; exact hP, hD⟩, hS.F ht⟩) hS.2.2 dX12_readMoves_41
  have hl := lv_entry ([.ref h0, .int p1]) (n := 5) (Nat.le_of_ble_eq_true rfl)
  rw [lg_entry_eq]
  generalize (lg_sl ([.ref h0, .int p1]) ++ List.replicate (5 - (lg_sl ([.ref h0, .int p1])).length) Slot.unset).toArray = ls at hl ⊢
  have hl : lv_has ls 5 [(0, .ref h0), (1, .int p1)] := hl
  refine lv_iconst (v := 0) hx hb dX12_readMoves_0 (by decide) ?_
  refine lv_istore_n (lv' := [(2, .int 0), (0, .ref h0), (1, .int p1)]) hx hb dX12_readMoves_1 rfl hl (by decide) rfl (fun ls hl => ?_)
  exact B2 _ _ _ _ ls p1 0 hu hp hkh hP hD hS (Nat.le_refl _) (by (try simp only [i_lt, i_le, i_eq, Int32.toInt_toInt64, Int32.reduceToInt, Int64.reduceToInt, true_and, and_true, false_and, and_false, false_or, or_false, true_or, or_true, not_true_eq_false, not_false_eq_true, ne_eq, forall_const, true_implies, false_implies, implies_true] at g_p1 hpre ⊢) <;> omega) (by (try simp only [i_lt, i_le, i_eq, Int32.toInt_toInt64, Int32.reduceToInt, Int64.reduceToInt, true_and, and_true, false_and, and_false, false_or, or_false, true_or, or_true, not_true_eq_false, not_false_eq_true, ne_eq, forall_const, true_implies, false_implies, implies_true] at g_p1 hpre ⊢) <;> omega) (by (try simp only [i_lt, i_le, i_eq, Int32.toInt_toInt64, Int32.reduceToInt, Int64.reduceToInt, true_and, and_true, false_and, and_false, false_or, or_false, true_or, or_true, not_true_eq_false, not_false_eq_true, ne_eq, forall_const, true_implies, false_implies, implies_true] at g_p1 hpre ⊢) <;> omega) (lv_sub hl [1, 2, 0] rfl)
set_option maxHeartbeats 4000000 in
set_option maxRecDepth 100000 in
theorem t_X12_readPipe (l : Launch) (D : va_G) (k : Nat → ClassId) (tt : TT) (u0 : PSt) (hu : WT u0) (h0 : Nat) (m_h0 : h0 ∈ u0.1) (k_h0 : u0.2.1 h0 = 12) (hpre : (u0.2.2.1 (ar u0 h0 14) 2).toInt ≤ 11) (sz : Nat) : Met l yX12_readPipe wsX12_readPipe ({ frames := 8, cells := 0, slots := 0, locals := 174 }) (PreT D k tt sz (PW k u0) [.ref h0]) (va_Qv (fun v => WT v ∧ PX u0 v ∧ KL u0 v ∧ (True)) (WB D (va_A (PW k u0) sz) (PW k)) (va_A (PW k u0) sz)) 0 0 (va_A (PW k u0) sz) := by
  refine Met.ofW (cc := cX12_readPipe) (maxL := 4) (ret := none) (by decide) rfl ?_
  intro p e s m args below meth c s₁ B hml hv
  obtain ⟨rfl, hsz, hP, hK, hD0, hN, hE0⟩ := hv
  have hx := B.exec
  have hb := B.bytes
  have hr := B.returns
  have hts := atoms_spec (ws := wsX12_readPipe) B.pre
  have hown : s.vm.findClass RX12 = some m.cls := findClass_of_methodNamed B.named
  have hlocks := B.notSynchronized
  have i_X12 : ∀ w ∈ wsX120, w ∈ wsX12_readPipe := by decide +kernel
  obtain ⟨a14, q0_14, m0_a14, k0_a14⟩ := (hu h0 m_h0).1 14 51 (by rw [k_h0]; rfl)
  have m0_h0 := m_h0
  have k0_h0 := k_h0
  have m_a14 := m0_a14
  have k_a14 := k0_a14
  subst hsz
  have hD := hD0.self (sz := s.heap.size)
  have hE := hE0
  generalize hAe : va_A (PW k u0) s.heap.size = A at hD hE ⊢
  have hA : ∀ q : Nat, s.heap.size ≤ q → A q := fun q h => by rw [← hAe]; exact Or.inr h
  have hS : va_S A s.heap s.heap [] := va_S.rf
  have hp : PX u0 u0 := PX.rf
  have hkl : KL u0 u0 := KL.rf
  simp only [ar_eq q0_14] at hpre
  have B120 : ∀ (u : PSt) (H : Heap) (locs : List Loc) (ls : Array Slot) (v1 : Int32), WT u → PX u0 u → KL u0 u → va_P D vwCl (PW k u) H → va_D A (PW k u) → va_S A s.heap H locs → 26 ≤ v1.toInt ∧ v1.toInt ≤ 290 → (v1.toInt % 24 = 2) → ((u.2.2.1 a14 2).toInt ≤ 11) → lv_has ls 4 [(0, .ref h0), (1, .int v1)] → W p l e (headSpec wsX12_readPipe ({ frames := 8, cells := 0, slots := 0, locals := 174 })).room s m ([.ref h0] : List Value).toArray below meth c H locs 0 0 (MQ below (va_Qv (fun v => WT v ∧ PX u0 v ∧ KL u0 v ∧ (True)) (WB D A (PW k)) A) ([.ref h0] : List Value).toArray s 0 0 A) (F0 m 120 ls []) := by
    intro u H locs ls v1 hu hp hkl hP hD hS g_v1 ex0 ex1 hl
    refine lv_aload_n hx hb dX12_readPipe_120 rfl (lv_at hl 0 rfl) ?_
    have k_h0 : u.2.1 h0 = 12 := (hp h0 m0_h0).2.1.trans k0_h0
    have m_h0 : h0 ∈ u.1 := (hp h0 m0_h0).1
    have k_a14 : u.2.1 a14 = 51 := (hp a14 m0_a14).2.1.trans k0_a14
    have m_a14 : a14 ∈ u.1 := (hp a14 m0_a14).1
    refine pget (ci := 12) (v := va_rf (u.2.2.2.2 h0 14)) (C := RX12) (T := TX12) (N := 34) hx hb hts i_X12 hown hK hP m_h0 (cF12 k_h0) rfl 14 (by decide) (hts (.fieldLink RX12 34 "BellowsRowModel" "fresh" "[I") (by decide +kernel)) (fun _ h9 => h9) rfl dX12_readPipe_121 ?_
    refine W.eq (g2 := F0 m 124 ls [.ref a14]) (by rw [(((hp h0 m0_h0).2.2.2.2.2.1 k0_h0 14).trans q0_14)]; rfl) ?_
    refine lv_iload_n hx hb dX12_readPipe_124 rfl (lv_at hl 1 rfl) ?_
    refine lv_iconst (v := 4) hx hb dX12_readPipe_125 (by decide) ?_
    refine lv_iadd hx hb dX12_readPipe_126 ?_
    refine lv_topi (fun x1 ex1 => ?_)
    have tx1 : x1.toInt = v1.toInt + (4 : Int32).toInt := by rw [ex1]; exact i_add (by (try simp only [i_lt, i_le, i_eq, Int32.toInt_toInt64, Int32.reduceToInt, Int64.reduceToInt, true_and, and_true, false_and, and_false, false_or, or_false, true_or, or_true, not_true_eq_false, not_false_eq_true, ne_eq, forall_const, true_implies, false_implies, implies_true] at g_v1 ex0 ex1 ⊢) <;> omega) (by (try simp only [i_lt, i_le, i_eq, Int32.toInt_toInt64, Int32.reduceToInt, Int64.reduceToInt, true_and, and_true, false_and, and_false, false_or, or_false, true_or, or_true, not_true_eq_false, not_false_eq_true, ne_eq, forall_const, true_implies, false_implies, implies_true] at g_v1 ex0 ex1 ⊢) <;> omega)
    refine lv_aload_n hx hb dX12_readPipe_127 rfl (lv_at hl 0 rfl) ?_
    refine va_ldcS (own := RX12) (tx := "bellows") (q := tt.1 53) hx hb hown (hE.2.1 (RX12, 205, "bellows", 53) (by decide +kernel)) dX12_readPipe_128 ?_
    refine lv_iconst (v := 0) hx hb dX12_readPipe_130 (by decide) ?_
    refine lv_sipush (v := 30000) hx hb dX12_readPipe_131 (by decide) ?_
    refine xiV (C := RX12) (As := [.ref (tt.1 53), .int 0, .int 30000]) (rest := [.int x1, .ref a14]) ⟨hx, hb, hml, hown, hts⟩ (fun sz => t_X12_told l D k tt u hu h0 m_h0 k_h0 53 (by decide) 0 30000 sz) (cwV 3 hts gX12_readPipe_X12_told rfl rfl rfl (by decide +kernel) ⟨Nat.le_of_ble_eq_true rfl, Nat.le_of_ble_eq_true rfl⟩) hP hK hD hN hE hS hA (precv hK hP m_h0 (cF12 k_h0) rfl) rfl hl.1 rfl (Nat.le_of_ble_eq_true rfl) dX12_readPipe_134 ⟨Nat.le_of_ble_eq_true rfl, Nat.le_of_ble_eq_true rfl⟩ (fun r2 u3 H locs hqu3 hP hD hS => ?_)
    obtain ⟨hu, hxu3, z4, hr2⟩ := hqu3
    have hkl := KL.trans hkl hp z4.toL
    have hp := PX.trans hp hxu3
    have w5 : (u3.2.2.1 a14 2).toInt = (u.2.2.1 a14 2).toInt := congrArg Int32.toInt (z4 a14 m_a14 k_a14 2)
    have gr2 : 0 ≤ r2.toInt ∧ r2.toInt ≤ 30000 := by (try simp only [i_lt, i_le, i_eq, Int32.toInt_toInt64, Int32.reduceToInt, Int64.reduceToInt, true_and, and_true, false_and, and_false, false_or, or_false, true_or, or_true, not_true_eq_false, not_false_eq_true, ne_eq, forall_const, true_implies, false_implies, implies_true] at g_v1 ex0 ex1 tx1 w5 hr2 ⊢) <;> omega
    have k_h0 : u3.2.1 h0 = 12 := (hp h0 m0_h0).2.1.trans k0_h0
    have m_h0 : h0 ∈ u3.1 := (hp h0 m0_h0).1
    have k_a14 : u3.2.1 a14 = 51 := (hp a14 m0_a14).2.1.trans k0_a14
    have m_a14 : a14 ∈ u3.1 := (hp a14 m0_a14).1
    refine pasI (u' := pSI u3 a14 (x1.toNatClampNeg) r2) hx hb hK hP hD hS m_a14 (cF51 k_a14) 1 rfl (vp_in_iff.mpr (by (try simp only [i_lt, i_le, i_eq, Int32.toInt_toInt64, Int32.reduceToInt, Int64.reduceToInt, true_and, and_true, false_and, and_false, false_or, or_false, true_or, or_true, not_true_eq_false, not_false_eq_true, ne_eq, forall_const, true_implies, false_implies, implies_true] at g_v1 ex0 ex1 tx1 w5 hr2 gr2 ⊢) <;> omega)) rfl (sF51 k_a14 _ _) dX12_readPipe_137 (fun H locs hP hD hS => ?_)
    have hu := WT.setI (a := a14) (s := (x1.toNatClampNeg)) (v := r2) hu (by rw [k_a14]; exact (show okW (x1.toNatClampNeg) r2 from by unfold okW; have z := cl_int (x := x1) (by (try simp only [i_lt, i_le, i_eq, Int32.toInt_toInt64, Int32.reduceToInt, Int64.reduceToInt, true_and, and_true, false_and, and_false, false_or, or_false, true_or, or_true, not_true_eq_false, not_false_eq_true, ne_eq, forall_const, true_implies, false_implies, implies_true] at g_v1 ex0 ex1 tx1 w5 hr2 gr2 ⊢) <;> omega); (try simp only [i_lt, i_le, i_eq, Int32.toInt_toInt64, Int32.reduceToInt, Int64.reduceToInt, true_and, and_true, false_and, and_false, false_or, or_false, true_or, or_true, not_true_eq_false, not_false_eq_true, ne_eq, forall_const, true_implies, false_implies, implies_true] at g_v1 ex0 ex1 tx1 w5 hr2 gr2 z ⊢) <;> omega))
    have hkl := KL.setF (a := a14) (s := (x1.toNatClampNeg)) (v := r2) hkl (by have z := cl_int (x := x1) (by (try simp only [i_lt, i_le, i_eq, Int32.toInt_toInt64, Int32.reduceToInt, Int64.reduceToInt, true_and, and_true, false_and, and_false, false_or, or_false, true_or, or_true, not_true_eq_false, not_false_eq_true, ne_eq, forall_const, true_implies, false_implies, implies_true] at g_v1 ex0 ex1 tx1 w5 hr2 gr2 ⊢) <;> omega); (try simp only [i_lt, i_le, i_eq, Int32.toInt_toInt64, Int32.reduceToInt, Int64.reduceToInt, true_and, and_true, false_and, and_false, false_or, or_false, true_or, or_true, not_true_eq_false, not_false_eq_true, ne_eq, forall_const, true_implies, false_implies, implies_true] at g_v1 ex0 ex1 tx1 w5 hr2 gr2 z ⊢) <;> omega)
    have hp := PX.setI (a := a14) (s := (x1.toNatClampNeg)) (v := r2) hp (by rw [k_a14]; decide)
    obtain ⟨u6, hu6⟩ : ∃ z, z = pSI u3 a14 (x1.toNatClampNeg) r2 := ⟨_, rfl⟩
    rw [← hu6] at hP hD hu hp hkl
    have w7 : (u6.2.2.1 a14 2).toInt = (u3.2.2.1 a14 2).toInt := by rw [hu6]; exact congrArg Int32.toInt (if_neg (fun q => by have y := q.2; have z := cl_int (x := x1) (by (try simp only [i_lt, i_le, i_eq, Int32.toInt_toInt64, Int32.reduceToInt, Int64.reduceToInt, true_and, and_true, false_and, and_false, false_or, or_false, true_or, or_true, not_true_eq_false, not_false_eq_true, ne_eq, forall_const, true_implies, false_implies, implies_true] at g_v1 ex0 ex1 tx1 w5 hr2 gr2 ⊢) <;> omega); (try simp only [i_lt, i_le, i_eq, Int32.toInt_toInt64, Int32.reduceToInt, Int64.reduceToInt, true_and, and_true, false_and, and_false, false_or, or_false, true_or, or_true, not_true_eq_false, not_false_eq_true, ne_eq, forall_const, true_implies, false_implies, implies_true] at g_v1 ex0 ex1 tx1 w5 hr2 gr2 y z ⊢) <;> omega))
    refine lv_aload_n hx hb dX12_readPipe_138 rfl (lv_at hl 0 rfl) ?_
    have k_h0 : u6.2.1 h0 = 12 := (hp h0 m0_h0).2.1.trans k0_h0
    have m_h0 : h0 ∈ u6.1 := (hp h0 m0_h0).1
    have k_a14 : u6.2.1 a14 = 51 := (hp a14 m0_a14).2.1.trans k0_a14
    have m_a14 : a14 ∈ u6.1 := (hp a14 m0_a14).1
    refine pget (ci := 12) (v := va_rf (u6.2.2.2.2 h0 14)) (C := RX12) (T := TX12) (N := 34) hx hb hts i_X12 hown hK hP m_h0 (cF12 k_h0) rfl 14 (by decide) (hts (.fieldLink RX12 34 "BellowsRowModel" "fresh" "[I") (by decide +kernel)) (fun _ h9 => h9) rfl dX12_readPipe_139 ?_
    refine W.eq (g2 := F0 m 142 ls [.ref a14]) (by rw [(((hp h0 m0_h0).2.2.2.2.2.1 k0_h0 14).trans q0_14)]; rfl) ?_
    refine lv_iload_n hx hb dX12_readPipe_142 rfl (lv_at hl 1 rfl) ?_
    refine lv_iconst (v := 5) hx hb dX12_readPipe_143 (by decide) ?_
    refine lv_iadd hx hb dX12_readPipe_144 ?_
    refine lv_topi (fun x8 ex8 => ?_)
    have tx8 : x8.toInt = v1.toInt + (5 : Int32).toInt := by rw [ex8]; exact i_add (by (try simp only [i_lt, i_le, i_eq, Int32.toInt_toInt64, Int32.reduceToInt, Int64.reduceToInt, true_and, and_true, false_and, and_false, false_or, or_false, true_or, or_true, not_true_eq_false, not_false_eq_true, ne_eq, forall_const, true_implies, false_implies, implies_true] at g_v1 ex0 ex1 tx1 w5 hr2 gr2 w7 ⊢) <;> omega) (by (try simp only [i_lt, i_le, i_eq, Int32.toInt_toInt64, Int32.reduceToInt, Int64.reduceToInt, true_and, and_true, false_and, and_false, false_or, or_false, true_or, or_true, not_true_eq_false, not_false_eq_true, ne_eq, forall_const, true_implies, false_implies, implies_true] at g_v1 ex0 ex1 tx1 w5 hr2 gr2 w7 ⊢) <;> omega)
    refine lv_aload_n hx hb dX12_readPipe_145 rfl (lv_at hl 0 rfl) ?_
    refine va_ldcS (own := RX12) (tx := "life") (q := tt.1 54) hx hb hown (hE.2.1 (RX12, 211, "life", 54) (by decide +kernel)) dX12_readPipe_146 ?_
    refine lv_iconst (v := 1) hx hb dX12_readPipe_148 (by decide) ?_
    refine lv_sipush (v := 9999) hx hb dX12_readPipe_149 (by decide) ?_
    refine xiV (C := RX12) (As := [.ref (tt.1 54), .int 1, .int 9999]) (rest := [.int x8, .ref a14]) ⟨hx, hb, hml, hown, hts⟩ (fun sz => t_X12_told l D k tt u6 hu h0 m_h0 k_h0 54 (by decide) 1 9999 sz) (cwV 3 hts gX12_readPipe_X12_told rfl rfl rfl (by decide +kernel) ⟨Nat.le_of_ble_eq_true rfl, Nat.le_of_ble_eq_true rfl⟩) hP hK hD hN hE hS hA (precv hK hP m_h0 (cF12 k_h0) rfl) rfl hl.1 rfl (Nat.le_of_ble_eq_true rfl) dX12_readPipe_152 ⟨Nat.le_of_ble_eq_true rfl, Nat.le_of_ble_eq_true rfl⟩ (fun r9 u10 H locs hqu10 hP hD hS => ?_)
    obtain ⟨hu, hxu10, z11, hr9⟩ := hqu10
    have hkl := KL.trans hkl hp z11.toL
    have hp := PX.trans hp hxu10
    have w12 : (u10.2.2.1 a14 2).toInt = (u6.2.2.1 a14 2).toInt := congrArg Int32.toInt (z11 a14 m_a14 k_a14 2)
    have gr9 : 0 ≤ r9.toInt ∧ r9.toInt ≤ 9999 := by (try simp only [i_lt, i_le, i_eq, Int32.toInt_toInt64, Int32.reduceToInt, Int64.reduceToInt, true_and, and_true, false_and, and_false, false_or, or_false, true_or, or_true, not_true_eq_false, not_false_eq_true, ne_eq, forall_const, true_implies, false_implies, implies_true] at g_v1 ex0 ex1 tx1 w5 hr2 gr2 w7 tx8 w12 hr9 ⊢) <;> omega
    have k_h0 : u10.2.1 h0 = 12 := (hp h0 m0_h0).2.1.trans k0_h0
    have m_h0 : h0 ∈ u10.1 := (hp h0 m0_h0).1
    have k_a14 : u10.2.1 a14 = 51 := (hp a14 m0_a14).2.1.trans k0_a14
    have m_a14 : a14 ∈ u10.1 := (hp a14 m0_a14).1
    refine pasI (u' := pSI u10 a14 (x8.toNatClampNeg) r9) hx hb hK hP hD hS m_a14 (cF51 k_a14) 1 rfl (vp_in_iff.mpr (by (try simp only [i_lt, i_le, i_eq, Int32.toInt_toInt64, Int32.reduceToInt, Int64.reduceToInt, true_and, and_true, false_and, and_false, false_or, or_false, true_or, or_true, not_true_eq_false, not_false_eq_true, ne_eq, forall_const, true_implies, false_implies, implies_true] at g_v1 ex0 ex1 tx1 w5 hr2 gr2 w7 tx8 w12 hr9 gr9 ⊢) <;> omega)) rfl (sF51 k_a14 _ _) dX12_readPipe_155 (fun H locs hP hD hS => ?_)
    have hu := WT.setI (a := a14) (s := (x8.toNatClampNeg)) (v := r9) hu (by rw [k_a14]; exact (show okW (x8.toNatClampNeg) r9 from by unfold okW; have z := cl_int (x := x8) (by (try simp only [i_lt, i_le, i_eq, Int32.toInt_toInt64, Int32.reduceToInt, Int64.reduceToInt, true_and, and_true, false_and, and_false, false_or, or_false, true_or, or_true, not_true_eq_false, not_false_eq_true, ne_eq, forall_const, true_implies, false_implies, implies_true] at g_v1 ex0 ex1 tx1 w5 hr2 gr2 w7 tx8 w12 hr9 gr9 ⊢) <;> omega); (try simp only [i_lt, i_le, i_eq, Int32.toInt_toInt64, Int32.reduceToInt, Int64.reduceToInt, true_and, and_true, false_and, and_false, false_or, or_false, true_or, or_true, not_true_eq_false, not_false_eq_true, ne_eq, forall_const, true_implies, false_implies, implies_true] at g_v1 ex0 ex1 tx1 w5 hr2 gr2 w7 tx8 w12 hr9 gr9 z ⊢) <;> omega))
    have hkl := KL.setF (a := a14) (s := (x8.toNatClampNeg)) (v := r9) hkl (by have z := cl_int (x := x8) (by (try simp only [i_lt, i_le, i_eq, Int32.toInt_toInt64, Int32.reduceToInt, Int64.reduceToInt, true_and, and_true, false_and, and_false, false_or, or_false, true_or, or_true, not_true_eq_false, not_false_eq_true, ne_eq, forall_const, true_implies, false_implies, implies_true] at g_v1 ex0 ex1 tx1 w5 hr2 gr2 w7 tx8 w12 hr9 gr9 ⊢) <;> omega); (try simp only [i_lt, i_le, i_eq, Int32.toInt_toInt64, Int32.reduceToInt, Int64.reduceToInt, true_and, and_true, false_and, and_false, false_or, or_false, true_or, or_true, not_true_eq_false, not_false_eq_true, ne_eq, forall_const, true_implies, false_implies, implies_true] at g_v1 ex0 ex1 tx1 w5 hr2 gr2 w7 tx8 w12 hr9 gr9 z ⊢) <;> omega)
    have hp := PX.setI (a := a14) (s := (x8.toNatClampNeg)) (v := r9) hp (by rw [k_a14]; decide)
    obtain ⟨u13, hu13⟩ : ∃ z, z = pSI u10 a14 (x8.toNatClampNeg) r9 := ⟨_, rfl⟩
    rw [← hu13] at hP hD hu hp hkl
    have w14 : (u13.2.2.1 a14 2).toInt = (u10.2.2.1 a14 2).toInt := by rw [hu13]; exact congrArg Int32.toInt (if_neg (fun q => by have y := q.2; have z := cl_int (x := x8) (by (try simp only [i_lt, i_le, i_eq, Int32.toInt_toInt64, Int32.reduceToInt, Int64.reduceToInt, true_and, and_true, false_and, and_false, false_or, or_false, true_or, or_true, not_true_eq_false, not_false_eq_true, ne_eq, forall_const, true_implies, false_implies, implies_true] at g_v1 ex0 ex1 tx1 w5 hr2 gr2 w7 tx8 w12 hr9 gr9 ⊢) <;> omega); (try simp only [i_lt, i_le, i_eq, Int32.toInt_toInt64, Int32.reduceToInt, Int64.reduceToInt, true_and, and_true, false_and, and_false, false_or, or_false, true_or, or_true, not_true_eq_false, not_false_eq_true, ne_eq, forall_const, true_implies, false_implies, implies_true] at g_v1 ex0 ex1 tx1 w5 hr2 gr2 w7 tx8 w12 hr9 gr9 y z ⊢) <;> omega))
    refine lv_aload_n hx hb dX12_readPipe_156 rfl (lv_at hl 0 rfl) ?_
    have k_h0 : u13.2.1 h0 = 12 := (hp h0 m0_h0).2.1.trans k0_h0
    have m_h0 : h0 ∈ u13.1 := (hp h0 m0_h0).1
    have k_a14 : u13.2.1 a14 = 51 := (hp a14 m0_a14).2.1.trans k0_a14
    have m_a14 : a14 ∈ u13.1 := (hp a14 m0_a14).1
    refine pget (ci := 12) (v := va_rf (u13.2.2.2.2 h0 14)) (C := RX12) (T := TX12) (N := 34) hx hb hts i_X12 hown hK hP m_h0 (cF12 k_h0) rfl 14 (by decide) (hts (.fieldLink RX12 34 "BellowsRowModel" "fresh" "[I") (by decide +kernel)) (fun _ h9 => h9) rfl dX12_readPipe_157 ?_
    refine W.eq (g2 := F0 m 160 ls [.ref a14]) (by rw [(((hp h0 m0_h0).2.2.2.2.2.1 k0_h0 14).trans q0_14)]; rfl) ?_
    refine lv_iload_n hx hb dX12_readPipe_160 rfl (lv_at hl 1 rfl) ?_
    refine lv_bipush (v := 6) hx hb dX12_readPipe_161 (by decide) ?_
    refine lv_iadd hx hb dX12_readPipe_163 ?_
    refine lv_topi (fun x15 ex15 => ?_)
    have tx15 : x15.toInt = v1.toInt + (6 : Int32).toInt := by rw [ex15]; exact i_add (by (try simp only [i_lt, i_le, i_eq, Int32.toInt_toInt64, Int32.reduceToInt, Int64.reduceToInt, true_and, and_true, false_and, and_false, false_or, or_false, true_or, or_true, not_true_eq_false, not_false_eq_true, ne_eq, forall_const, true_implies, false_implies, implies_true] at g_v1 ex0 ex1 tx1 w5 hr2 gr2 w7 tx8 w12 hr9 gr9 w14 ⊢) <;> omega) (by (try simp only [i_lt, i_le, i_eq, Int32.toInt_toInt64, Int32.reduceToInt, Int64.reduceToInt, true_and, and_true, false_and, and_false, false_or, or_false, true_or, or_true, not_true_eq_false, not_false_eq_true, ne_eq, forall_const, true_implies, false_implies, implies_true] at g_v1 ex0 ex1 tx1 w5 hr2 gr2 w7 tx8 w12 hr9 gr9 w14 ⊢) <;> omega)
    refine lv_aload_n hx hb dX12_readPipe_164 rfl (lv_at hl 0 rfl) ?_
    refine va_ldcS (own := RX12) (tx := "prop") (q := tt.1 46) hx hb hown (hE.2.1 (RX12, 175, "prop", 46) (by decide +kernel)) dX12_readPipe_165 ?_
    refine xiV (C := RX12) (As := [.ref (tt.1 46)]) (rest := [.int x15, .ref a14]) ⟨hx, hb, hml, hown, hts⟩ (fun sz => t_X12_takes l D k tt u13 hu h0 m_h0 k_h0 46 (by decide) sz) (cwV 1 hts gX12_readPipe_X12_takes rfl rfl rfl (by decide +kernel) ⟨Nat.le_of_ble_eq_true rfl, Nat.le_of_ble_eq_true rfl⟩) hP hK hD hN hE hS hA (precv hK hP m_h0 (cF12 k_h0) rfl) rfl hl.1 rfl (Nat.le_of_ble_eq_true rfl) dX12_readPipe_167 ⟨Nat.le_of_ble_eq_true rfl, Nat.le_of_ble_eq_true rfl⟩ (fun r16 u17 H locs hqu17 hP hD hS => ?_)
    obtain ⟨hu, hxu17, z18, hr16⟩ := hqu17
    rcases hr16 with ⟨er16, hnr16, sameu17⟩ | ⟨er16, hir16, har16⟩
    · have sameu17 := sameu17.symm
      subst sameu17
      refine lv_if_eq (tgt := 177) hx hb dX12_readPipe_170 (by decide) (fun _ => ?_) (fun h => absurd (by (try simp only [i_lt, i_le, i_eq, Int32.toInt_toInt64, Int32.reduceToInt, Int64.reduceToInt, true_and, and_true, false_and, and_false, false_or, or_false, true_or, or_true, not_true_eq_false, not_false_eq_true, ne_eq, forall_const, true_implies, false_implies, implies_true] at g_v1 ex0 ex1 tx1 w5 hr2 gr2 w7 tx8 w12 hr9 gr9 w14 tx15 er16 ⊢) <;> omega) h)
      refine lv_iconst (v := 0) hx hb dX12_readPipe_177 (by decide) ?_
      refine pasI (u' := pSI u13 a14 (x15.toNatClampNeg) 0) hx hb hK hP hD hS m_a14 (cF51 k_a14) 1 rfl (vp_in_iff.mpr (by (try simp only [i_lt, i_le, i_eq, Int32.toInt_toInt64, Int32.reduceToInt, Int64.reduceToInt, true_and, and_true, false_and, and_false, false_or, or_false, true_or, or_true, not_true_eq_false, not_false_eq_true, ne_eq, forall_const, true_implies, false_implies, implies_true] at g_v1 ex0 ex1 tx1 w5 hr2 gr2 w7 tx8 w12 hr9 gr9 w14 tx15 er16 ⊢) <;> omega)) rfl (sF51 k_a14 _ _) dX12_readPipe_178 (fun H locs hP hD hS => ?_)
      have hu := WT.setI (a := a14) (s := (x15.toNatClampNeg)) (v := 0) hu (by rw [k_a14]; exact (show okW (x15.toNatClampNeg) (0 : Int32) from by unfold okW; have z := cl_int (x := x15) (by (try simp only [i_lt, i_le, i_eq, Int32.toInt_toInt64, Int32.reduceToInt, Int64.reduceToInt, true_and, and_true, false_and, and_false, false_or, or_false, true_or, or_true, not_true_eq_false, not_false_eq_true, ne_eq, forall_const, true_implies, false_implies, implies_true] at g_v1 ex0 ex1 tx1 w5 hr2 gr2 w7 tx8 w12 hr9 gr9 w14 tx15 er16 ⊢) <;> omega); (try simp only [i_lt, i_le, i_eq, Int32.toInt_toInt64, Int32.reduceToInt, Int64.reduceToInt, true_and, and_true, false_and, and_false, false_or, or_false, true_or, or_true, not_true_eq_false, not_false_eq_true, ne_eq, forall_const, true_implies, false_implies, implies_true] at g_v1 ex0 ex1 tx1 w5 hr2 gr2 w7 tx8 w12 hr9 gr9 w14 tx15 er16 z ⊢) <;> omega))
      have hkl := KL.setF (a := a14) (s := (x15.toNatClampNeg)) (v := 0) hkl (by have z := cl_int (x := x15) (by (try simp only [i_lt, i_le, i_eq, Int32.toInt_toInt64, Int32.reduceToInt, Int64.reduceToInt, true_and, and_true, false_and, and_false, false_or, or_false, true_or, or_true, not_true_eq_false, not_false_eq_true, ne_eq, forall_const, true_implies, false_implies, implies_true] at g_v1 ex0 ex1 tx1 w5 hr2 gr2 w7 tx8 w12 hr9 gr9 w14 tx15 er16 ⊢) <;> omega); (try simp only [i_lt, i_le, i_eq, Int32.toInt_toInt64, Int32.reduceToInt, Int64.reduceToInt, true_and, and_true, false_and, and_false, false_or, or_false, true_or, or_true, not_true_eq_false, not_false_eq_true, ne_eq, forall_const, true_implies, false_implies, implies_true] at g_v1 ex0 ex1 tx1 w5 hr2 gr2 w7 tx8 w12 hr9 gr9 w14 tx15 er16 z ⊢) <;> omega)
      have hp := PX.setI (a := a14) (s := (x15.toNatClampNeg)) (v := 0) hp (by rw [k_a14]; decide)
      obtain ⟨u19, hu19⟩ : ∃ z, z = pSI u13 a14 (x15.toNatClampNeg) 0 := ⟨_, rfl⟩
      rw [← hu19] at hP hD hu hp hkl
      have w20 : (u19.2.2.1 a14 2).toInt = (u13.2.2.1 a14 2).toInt := by rw [hu19]; exact congrArg Int32.toInt (if_neg (fun q => by have y := q.2; have z := cl_int (x := x15) (by (try simp only [i_lt, i_le, i_eq, Int32.toInt_toInt64, Int32.reduceToInt, Int64.reduceToInt, true_and, and_true, false_and, and_false, false_or, or_false, true_or, or_true, not_true_eq_false, not_false_eq_true, ne_eq, forall_const, true_implies, false_implies, implies_true] at g_v1 ex0 ex1 tx1 w5 hr2 gr2 w7 tx8 w12 hr9 gr9 w14 tx15 er16 ⊢) <;> omega); (try simp only [i_lt, i_le, i_eq, Int32.toInt_toInt64, Int32.reduceToInt, Int64.reduceToInt, true_and, and_true, false_and, and_false, false_or, or_false, true_or, or_true, not_true_eq_false, not_false_eq_true, ne_eq, forall_const, true_implies, false_implies, implies_true] at g_v1 ex0 ex1 tx1 w5 hr2 gr2 w7 tx8 w12 hr9 gr9 w14 tx15 er16 y z ⊢) <;> omega))
      refine lv_aload_n hx hb dX12_readPipe_179 rfl (lv_at hl 0 rfl) ?_
      have k_h0 : u19.2.1 h0 = 12 := (hp h0 m0_h0).2.1.trans k0_h0
      have m_h0 : h0 ∈ u19.1 := (hp h0 m0_h0).1
      have k_a14 : u19.2.1 a14 = 51 := (hp a14 m0_a14).2.1.trans k0_a14
      have m_a14 : a14 ∈ u19.1 := (hp a14 m0_a14).1
      refine pget (ci := 12) (v := va_rf (u19.2.2.2.2 h0 14)) (C := RX12) (T := TX12) (N := 34) hx hb hts i_X12 hown hK hP m_h0 (cF12 k_h0) rfl 14 (by decide) (hts (.fieldLink RX12 34 "BellowsRowModel" "fresh" "[I") (by decide +kernel)) (fun _ h9 => h9) rfl dX12_readPipe_180 ?_
      refine W.eq (g2 := F0 m 183 ls [.ref a14]) (by rw [(((hp h0 m0_h0).2.2.2.2.2.1 k0_h0 14).trans q0_14)]; rfl) ?_
      refine lv_iload_n hx hb dX12_readPipe_183 rfl (lv_at hl 1 rfl) ?_
      refine lv_bipush (v := 7) hx hb dX12_readPipe_184 (by decide) ?_
      refine lv_iadd hx hb dX12_readPipe_186 ?_
      refine lv_topi (fun x21 ex21 => ?_)
      have tx21 : x21.toInt = v1.toInt + (7 : Int32).toInt := by rw [ex21]; exact i_add (by (try simp only [i_lt, i_le, i_eq, Int32.toInt_toInt64, Int32.reduceToInt, Int64.reduceToInt, true_and, and_true, false_and, and_false, false_or, or_false, true_or, or_true, not_true_eq_false, not_false_eq_true, ne_eq, forall_const, true_implies, false_implies, implies_true] at g_v1 ex0 ex1 tx1 w5 hr2 gr2 w7 tx8 w12 hr9 gr9 w14 tx15 er16 w20 ⊢) <;> omega) (by (try simp only [i_lt, i_le, i_eq, Int32.toInt_toInt64, Int32.reduceToInt, Int64.reduceToInt, true_and, and_true, false_and, and_false, false_or, or_false, true_or, or_true, not_true_eq_false, not_false_eq_true, ne_eq, forall_const, true_implies, false_implies, implies_true] at g_v1 ex0 ex1 tx1 w5 hr2 gr2 w7 tx8 w12 hr9 gr9 w14 tx15 er16 w20 ⊢) <;> omega)
      refine lv_aload_n hx hb dX12_readPipe_187 rfl (lv_at hl 0 rfl) ?_
      refine va_ldcS (own := RX12) (tx := "stay") (q := tt.1 55) hx hb hown (hE.2.1 (RX12, 213, "stay", 55) (by decide +kernel)) dX12_readPipe_188 ?_
      refine xiV (C := RX12) (As := [.ref (tt.1 55)]) (rest := [.int x21, .ref a14]) ⟨hx, hb, hml, hown, hts⟩ (fun sz => t_X12_takes l D k tt u19 hu h0 m_h0 k_h0 55 (by decide) sz) (cwV 1 hts gX12_readPipe_X12_takes rfl rfl rfl (by decide +kernel) ⟨Nat.le_of_ble_eq_true rfl, Nat.le_of_ble_eq_true rfl⟩) hP hK hD hN hE hS hA (precv hK hP m_h0 (cF12 k_h0) rfl) rfl hl.1 rfl (Nat.le_of_ble_eq_true rfl) dX12_readPipe_190 ⟨Nat.le_of_ble_eq_true rfl, Nat.le_of_ble_eq_true rfl⟩ (fun r22 u23 H locs hqu23 hP hD hS => ?_)
      obtain ⟨hu, hxu23, z24, hr22⟩ := hqu23
      rcases hr22 with ⟨er22, hnr22, sameu23⟩ | ⟨er22, hir22, har22⟩
      · have sameu23 := sameu23.symm
        subst sameu23
        refine lv_if_eq (tgt := 207) hx hb dX12_readPipe_193 (by decide) (fun _ => ?_) (fun h => absurd (by (try simp only [i_lt, i_le, i_eq, Int32.toInt_toInt64, Int32.reduceToInt, Int64.reduceToInt, true_and, and_true, false_and, and_false, false_or, or_false, true_or, or_true, not_true_eq_false, not_false_eq_true, ne_eq, forall_const, true_implies, false_implies, implies_true] at g_v1 ex0 ex1 tx1 w5 hr2 gr2 w7 tx8 w12 hr9 gr9 w14 tx15 er16 w20 tx21 er22 ⊢) <;> omega) h)
        refine lv_iconst (v := 0) hx hb dX12_readPipe_207 (by decide) ?_
        refine pasI (u' := pSI u19 a14 (x21.toNatClampNeg) 0) hx hb hK hP hD hS m_a14 (cF51 k_a14) 1 rfl (vp_in_iff.mpr (by (try simp only [i_lt, i_le, i_eq, Int32.toInt_toInt64, Int32.reduceToInt, Int64.reduceToInt, true_and, and_true, false_and, and_false, false_or, or_false, true_or, or_true, not_true_eq_false, not_false_eq_true, ne_eq, forall_const, true_implies, false_implies, implies_true] at g_v1 ex0 ex1 tx1 w5 hr2 gr2 w7 tx8 w12 hr9 gr9 w14 tx15 er16 w20 tx21 er22 ⊢) <;> omega)) rfl (sF51 k_a14 _ _) dX12_readPipe_208 (fun H locs hP hD hS => ?_)
        have hu := WT.setI (a := a14) (s := (x21.toNatClampNeg)) (v := 0) hu (by rw [k_a14]; exact (show okW (x21.toNatClampNeg) (0 : Int32) from by unfold okW; have z := cl_int (x := x21) (by (try simp only [i_lt, i_le, i_eq, Int32.toInt_toInt64, Int32.reduceToInt, Int64.reduceToInt, true_and, and_true, false_and, and_false, false_or, or_false, true_or, or_true, not_true_eq_false, not_false_eq_true, ne_eq, forall_const, true_implies, false_implies, implies_true] at g_v1 ex0 ex1 tx1 w5 hr2 gr2 w7 tx8 w12 hr9 gr9 w14 tx15 er16 w20 tx21 er22 ⊢) <;> omega); (try simp only [i_lt, i_le, i_eq, Int32.toInt_toInt64, Int32.reduceToInt, Int64.reduceToInt, true_and, and_true, false_and, and_false, false_or, or_false, true_or, or_true, not_true_eq_false, not_false_eq_true, ne_eq, forall_const, true_implies, false_implies, implies_true] at g_v1 ex0 ex1 tx1 w5 hr2 gr2 w7 tx8 w12 hr9 gr9 w14 tx15 er16 w20 tx21 er22 z ⊢) <;> omega))
        have hkl := KL.setF (a := a14) (s := (x21.toNatClampNeg)) (v := 0) hkl (by have z := cl_int (x := x21) (by (try simp only [i_lt, i_le, i_eq, Int32.toInt_toInt64, Int32.reduceToInt, Int64.reduceToInt, true_and, and_true, false_and, and_false, false_or, or_false, true_or, or_true, not_true_eq_false, not_false_eq_true, ne_eq, forall_const, true_implies, false_implies, implies_true] at g_v1 ex0 ex1 tx1 w5 hr2 gr2 w7 tx8 w12 hr9 gr9 w14 tx15 er16 w20 tx21 er22 ⊢) <;> omega); (try simp only [i_lt, i_le, i_eq, Int32.toInt_toInt64, Int32.reduceToInt, Int64.reduceToInt, true_and, and_true, false_and, and_false, false_or, or_false, true_or, or_true, not_true_eq_false, not_false_eq_true, ne_eq, forall_const, true_implies, false_implies, implies_true] at g_v1 ex0 ex1 tx1 w5 hr2 gr2 w7 tx8 w12 hr9 gr9 w14 tx15 er16 w20 tx21 er22 z ⊢) <;> omega)
        have hp := PX.setI (a := a14) (s := (x21.toNatClampNeg)) (v := 0) hp (by rw [k_a14]; decide)
        obtain ⟨u25, hu25⟩ : ∃ z, z = pSI u19 a14 (x21.toNatClampNeg) 0 := ⟨_, rfl⟩
        rw [← hu25] at hP hD hu hp hkl
        have w26 : (u25.2.2.1 a14 2).toInt = (u19.2.2.1 a14 2).toInt := by rw [hu25]; exact congrArg Int32.toInt (if_neg (fun q => by have y := q.2; have z := cl_int (x := x21) (by (try simp only [i_lt, i_le, i_eq, Int32.toInt_toInt64, Int32.reduceToInt, Int64.reduceToInt, true_and, and_true, false_and, and_false, false_or, or_false, true_or, or_true, not_true_eq_false, not_false_eq_true, ne_eq, forall_const, true_implies, false_implies, implies_true] at g_v1 ex0 ex1 tx1 w5 hr2 gr2 w7 tx8 w12 hr9 gr9 w14 tx15 er16 w20 tx21 er22 ⊢) <;> omega); (try simp only [i_lt, i_le, i_eq, Int32.toInt_toInt64, Int32.reduceToInt, Int64.reduceToInt, true_and, and_true, false_and, and_false, false_or, or_false, true_or, or_true, not_true_eq_false, not_false_eq_true, ne_eq, forall_const, true_implies, false_implies, implies_true] at g_v1 ex0 ex1 tx1 w5 hr2 gr2 w7 tx8 w12 hr9 gr9 w14 tx15 er16 w20 tx21 er22 y z ⊢) <;> omega))
        refine lv_aload_n hx hb dX12_readPipe_209 rfl (lv_at hl 0 rfl) ?_
        have k_h0 : u25.2.1 h0 = 12 := (hp h0 m0_h0).2.1.trans k0_h0
        have m_h0 : h0 ∈ u25.1 := (hp h0 m0_h0).1
        have k_a14 : u25.2.1 a14 = 51 := (hp a14 m0_a14).2.1.trans k0_a14
        have m_a14 : a14 ∈ u25.1 := (hp a14 m0_a14).1
        refine rvi (C := RX12) (As := []) (rest := []) ⟨hx, hb, hml, hown, hts⟩ (t_X12_good l D k u25 hu h0 m_h0 k_h0 ) (cwV 0 hts gX12_readPipe_X12_good rfl rfl rfl (by decide +kernel) ⟨Nat.le_of_ble_eq_true rfl, Nat.le_of_ble_eq_true rfl⟩) hP hK (precv hK hP m_h0 (cF12 k_h0) rfl) rfl hl.1 rfl (Nat.le_of_ble_eq_true rfl) dX12_readPipe_210 ⟨Nat.le_of_ble_eq_true rfl, Nat.le_of_ble_eq_true rfl⟩ (fun r27 hr27 => ?_)
        refine lv_if_eq (tgt := 226) hx hb dX12_readPipe_213 (by decide) (fun c28 => ?_) (fun c28 => ?_)
        · have eb29 : r27.toInt = 0 := by rcases hr27 with ⟨q, -⟩ | ⟨q, -⟩; exact q; (exact absurd (c28) (fun w => by rw [w] at q; exact absurd q (by decide)))
          have fb29 : (u25.2.2.1 h0 12).toInt ≠ 0 := by rcases hr27 with ⟨q, r⟩ | ⟨q, r⟩; exact r; exact absurd q (by omega)
          clear hr27
          exact W.vret hx hb hr (fun t ht hW => ⟨⟨u25, rfl, ⟨hu, hp, hkl, trivial⟩, by rw [ht]; exact hP, hD⟩, hS.F ht⟩) hS.2.2 dX12_readPipe_226
        · have eb30 : r27.toInt = 1 := by rcases hr27 with ⟨q, -⟩ | ⟨q, -⟩; exact absurd (i_eq.mpr q) c28; exact q
          have fb30 : (u25.2.2.1 h0 12).toInt = 0 := by rcases hr27 with ⟨q, r⟩ | ⟨q, r⟩; exact absurd q (by omega); exact r
          clear hr27
          refine lv_aload_n hx hb dX12_readPipe_216 rfl (lv_at hl 0 rfl) ?_
          refine pget (ci := 12) (v := va_rf (u25.2.2.2.2 h0 14)) (C := RX12) (T := TX12) (N := 34) hx hb hts i_X12 hown hK hP m_h0 (cF12 k_h0) rfl 14 (by decide) (hts (.fieldLink RX12 34 "BellowsRowModel" "fresh" "[I") (by decide +kernel)) (fun _ h9 => h9) rfl dX12_readPipe_217 ?_
          refine W.eq (g2 := F0 m 220 ls [.ref a14]) (by rw [(((hp h0 m0_h0).2.2.2.2.2.1 k0_h0 14).trans q0_14)]; rfl) ?_
          refine lv_iconst (v := 2) hx hb dX12_readPipe_220 (by decide) ?_
          refine lv_dup2_11 hx hb dX12_readPipe_221 rfl rfl ?_
          refine palI hx hb hK hP m_a14 (cF51 k_a14) 1 rfl (vp_in_iff.mpr (by decide)) dX12_readPipe_222 ?_
          refine lv_topi (fun x31 ex31 => ?_)
          have tx31 : x31.toInt = (u25.2.2.1 a14 2).toInt := congrArg Int32.toInt ex31
          have g32 : 0 ≤ x31.toInt ∧ x31.toInt ≤ 12 := by have g : okI (u25.2.1 a14) (2) (u25.2.2.1 a14 (2)) := (hu a14 m_a14).2.2.2 (2); rw [k_a14, ← (show x31 = u25.2.2.1 a14 (2) from ex31)] at g; have g : okW (2) x31 := g; unfold okW at g; (try simp only [i_lt, i_le, i_eq, Int32.toInt_toInt64, Int32.reduceToInt, Int64.reduceToInt, true_and, and_true, false_and, and_false, false_or, or_false, true_or, or_true, not_true_eq_false, not_false_eq_true, ne_eq, forall_const, true_implies, false_implies, implies_true] at g_v1 ex0 ex1 tx1 w5 hr2 gr2 w7 tx8 w12 hr9 gr9 w14 tx15 er16 w20 tx21 er22 w26 eb30 fb30 tx31 g ⊢) <;> omega
          refine lv_iconst (v := 1) hx hb dX12_readPipe_223 (by decide) ?_
          refine lv_iadd hx hb dX12_readPipe_224 ?_
          refine lv_topi (fun x33 ex33 => ?_)
          have tx33 : x33.toInt = x31.toInt + (1 : Int32).toInt := by rw [ex33]; exact i_add (by (try simp only [i_lt, i_le, i_eq, Int32.toInt_toInt64, Int32.reduceToInt, Int64.reduceToInt, true_and, and_true, false_and, and_false, false_or, or_false, true_or, or_true, not_true_eq_false, not_false_eq_true, ne_eq, forall_const, true_implies, false_implies, implies_true] at g_v1 ex0 ex1 tx1 w5 hr2 gr2 w7 tx8 w12 hr9 gr9 w14 tx15 er16 w20 tx21 er22 w26 eb30 fb30 tx31 g32 ⊢) <;> omega) (by (try simp only [i_lt, i_le, i_eq, Int32.toInt_toInt64, Int32.reduceToInt, Int64.reduceToInt, true_and, and_true, false_and, and_false, false_or, or_false, true_or, or_true, not_true_eq_false, not_false_eq_true, ne_eq, forall_const, true_implies, false_implies, implies_true] at g_v1 ex0 ex1 tx1 w5 hr2 gr2 w7 tx8 w12 hr9 gr9 w14 tx15 er16 w20 tx21 er22 w26 eb30 fb30 tx31 g32 ⊢) <;> omega)
          refine pasI (u' := pSI u25 a14 2 x33) hx hb hK hP hD hS m_a14 (cF51 k_a14) 1 rfl (vp_in_iff.mpr (by decide)) rfl (sF51 k_a14 _ _) dX12_readPipe_225 (fun H locs hP hD hS => ?_)
          have hu := WT.setI (a := a14) (s := 2) (v := x33) hu (by rw [k_a14]; exact (show okW 2 x33 from by unfold okW; (try simp only [i_lt, i_le, i_eq, Int32.toInt_toInt64, Int32.reduceToInt, Int64.reduceToInt, true_and, and_true, false_and, and_false, false_or, or_false, true_or, or_true, not_true_eq_false, not_false_eq_true, ne_eq, forall_const, true_implies, false_implies, implies_true] at g_v1 ex0 ex1 tx1 w5 hr2 gr2 w7 tx8 w12 hr9 gr9 w14 tx15 er16 w20 tx21 er22 w26 eb30 fb30 tx31 g32 tx33 ⊢) <;> omega))
          have hkl := KL.setF (a := a14) (s := 2) (v := x33) hkl (by (try simp only [i_lt, i_le, i_eq, Int32.toInt_toInt64, Int32.reduceToInt, Int64.reduceToInt, true_and, and_true, false_and, and_false, false_or, or_false, true_or, or_true, not_true_eq_false, not_false_eq_true, ne_eq, forall_const, true_implies, false_implies, implies_true] at g_v1 ex0 ex1 tx1 w5 hr2 gr2 w7 tx8 w12 hr9 gr9 w14 tx15 er16 w20 tx21 er22 w26 eb30 fb30 tx31 g32 tx33 ⊢) <;> omega)
          have hp := PX.setI (a := a14) (s := 2) (v := x33) hp (by rw [k_a14]; decide)
          obtain ⟨u34, hu34⟩ : ∃ z, z = pSI u25 a14 2 x33 := ⟨_, rfl⟩
          rw [← hu34] at hP hD hu hp hkl
          have w35 : (u34.2.2.1 a14 2).toInt = x33.toInt := by rw [hu34]; exact congrArg Int32.toInt (if_pos ⟨rfl, rfl⟩)
          exact W.vret hx hb hr (fun t ht hW => ⟨⟨u34, rfl, ⟨hu, hp, hkl, trivial⟩, by rw [ht]; exact hP, hD⟩, hS.F ht⟩) hS.2.2 dX12_readPipe_226
      · have hkl := KL.trans hkl hp z24.toL
        have hp := PX.trans hp hxu23
        have w36 : (u23.2.2.1 a14 2).toInt = (u19.2.2.1 a14 2).toInt := congrArg Int32.toInt (z24 a14 m_a14 k_a14 2)
        refine lv_if_eq (tgt := 207) hx hb dX12_readPipe_193 (by decide) (fun h => absurd h (by (try simp only [i_lt, i_le, i_eq, Int32.toInt_toInt64, Int32.reduceToInt, Int64.reduceToInt, true_and, and_true, false_and, and_false, false_or, or_false, true_or, or_true, not_true_eq_false, not_false_eq_true, ne_eq, forall_const, true_implies, false_implies, implies_true] at g_v1 ex0 ex1 tx1 w5 hr2 gr2 w7 tx8 w12 hr9 gr9 w14 tx15 er16 w20 tx21 er22 har22 w36 ⊢) <;> omega)) (fun _ => ?_)
        refine lv_aload_n hx hb dX12_readPipe_196 rfl (lv_at hl 0 rfl) ?_
        refine lv_iconst (v := 0) hx hb dX12_readPipe_197 (by decide) ?_
        refine lv_sipush (v := 30000) hx hb dX12_readPipe_198 (by decide) ?_
        have k_h0 : u23.2.1 h0 = 12 := (hp h0 m0_h0).2.1.trans k0_h0
        have m_h0 : h0 ∈ u23.1 := (hp h0 m0_h0).1
        have k_a14 : u23.2.1 a14 = 51 := (hp a14 m0_a14).2.1.trans k0_a14
        have m_a14 : a14 ∈ u23.1 := (hp a14 m0_a14).1
        refine wiV (C := RX12) (As := [.int 0, .int 30000]) (rest := [.int x21, .ref a14]) ⟨hx, hb, hml, hown, hts⟩ (fun sz => t_X12_number l D k u23 hu h0 m_h0 k_h0 0 30000 sz) (cwV 2 hts gX12_readPipe_X12_number rfl rfl rfl (by decide +kernel) ⟨Nat.le_of_ble_eq_true rfl, Nat.le_of_ble_eq_true rfl⟩) hP hK hD hN hS hA (precv hK hP m_h0 (cF12 k_h0) rfl) rfl hl.1 rfl (Nat.le_of_ble_eq_true rfl) dX12_readPipe_201 ⟨Nat.le_of_ble_eq_true rfl, Nat.le_of_ble_eq_true rfl⟩ (fun r37 u38 H locs hqu38 hP hD hS => ?_)
        obtain ⟨hu, hxu38, z39, hr37⟩ := hqu38
        have hkl := KL.trans hkl hp z39.toL
        have hp := PX.trans hp hxu38
        have w40 : (u38.2.2.1 a14 2).toInt = (u23.2.2.1 a14 2).toInt := congrArg Int32.toInt (z39 a14 m_a14 k_a14 2)
        have gr37 : 0 ≤ r37.toInt ∧ r37.toInt ≤ 30000 := by (try simp only [i_lt, i_le, i_eq, Int32.toInt_toInt64, Int32.reduceToInt, Int64.reduceToInt, true_and, and_true, false_and, and_false, false_or, or_false, true_or, or_true, not_true_eq_false, not_false_eq_true, ne_eq, forall_const, true_implies, false_implies, implies_true] at g_v1 ex0 ex1 tx1 w5 hr2 gr2 w7 tx8 w12 hr9 gr9 w14 tx15 er16 w20 tx21 er22 har22 w36 w40 hr37 ⊢) <;> omega
        refine lv_goto (tgt := 208) hx hb dX12_readPipe_204 (by decide) ?_
        have k_h0 : u38.2.1 h0 = 12 := (hp h0 m0_h0).2.1.trans k0_h0
        have m_h0 : h0 ∈ u38.1 := (hp h0 m0_h0).1
        have k_a14 : u38.2.1 a14 = 51 := (hp a14 m0_a14).2.1.trans k0_a14
        have m_a14 : a14 ∈ u38.1 := (hp a14 m0_a14).1
        refine pasI (u' := pSI u38 a14 (x21.toNatClampNeg) r37) hx hb hK hP hD hS m_a14 (cF51 k_a14) 1 rfl (vp_in_iff.mpr (by (try simp only [i_lt, i_le, i_eq, Int32.toInt_toInt64, Int32.reduceToInt, Int64.reduceToInt, true_and, and_true, false_and, and_false, false_or, or_false, true_or, or_true, not_true_eq_false, not_false_eq_true, ne_eq, forall_const, true_implies, false_implies, implies_true] at g_v1 ex0 ex1 tx1 w5 hr2 gr2 w7 tx8 w12 hr9 gr9 w14 tx15 er16 w20 tx21 er22 har22 w36 w40 hr37 gr37 ⊢) <;> omega)) rfl (sF51 k_a14 _ _) dX12_readPipe_208 (fun H locs hP hD hS => ?_)
        have hu := WT.setI (a := a14) (s := (x21.toNatClampNeg)) (v := r37) hu (by rw [k_a14]; exact (show okW (x21.toNatClampNeg) r37 from by unfold okW; have z := cl_int (x := x21) (by (try simp only [i_lt, i_le, i_eq, Int32.toInt_toInt64, Int32.reduceToInt, Int64.reduceToInt, true_and, and_true, false_and, and_false, false_or, or_false, true_or, or_true, not_true_eq_false, not_false_eq_true, ne_eq, forall_const, true_implies, false_implies, implies_true] at g_v1 ex0 ex1 tx1 w5 hr2 gr2 w7 tx8 w12 hr9 gr9 w14 tx15 er16 w20 tx21 er22 har22 w36 w40 hr37 gr37 ⊢) <;> omega); (try simp only [i_lt, i_le, i_eq, Int32.toInt_toInt64, Int32.reduceToInt, Int64.reduceToInt, true_and, and_true, false_and, and_false, false_or, or_false, true_or, or_true, not_true_eq_false, not_false_eq_true, ne_eq, forall_const, true_implies, false_implies, implies_true] at g_v1 ex0 ex1 tx1 w5 hr2 gr2 w7 tx8 w12 hr9 gr9 w14 tx15 er16 w20 tx21 er22 har22 w36 w40 hr37 gr37 z ⊢) <;> omega))
        have hkl := KL.setF (a := a14) (s := (x21.toNatClampNeg)) (v := r37) hkl (by have z := cl_int (x := x21) (by (try simp only [i_lt, i_le, i_eq, Int32.toInt_toInt64, Int32.reduceToInt, Int64.reduceToInt, true_and, and_true, false_and, and_false, false_or, or_false, true_or, or_true, not_true_eq_false, not_false_eq_true, ne_eq, forall_const, true_implies, false_implies, implies_true] at g_v1 ex0 ex1 tx1 w5 hr2 gr2 w7 tx8 w12 hr9 gr9 w14 tx15 er16 w20 tx21 er22 har22 w36 w40 hr37 gr37 ⊢) <;> omega); (try simp only [i_lt, i_le, i_eq, Int32.toInt_toInt64, Int32.reduceToInt, Int64.reduceToInt, true_and, and_true, false_and, and_false, false_or, or_false, true_or, or_true, not_true_eq_false, not_false_eq_true, ne_eq, forall_const, true_implies, false_implies, implies_true] at g_v1 ex0 ex1 tx1 w5 hr2 gr2 w7 tx8 w12 hr9 gr9 w14 tx15 er16 w20 tx21 er22 har22 w36 w40 hr37 gr37 z ⊢) <;> omega)
        have hp := PX.setI (a := a14) (s := (x21.toNatClampNeg)) (v := r37) hp (by rw [k_a14]; decide)
        obtain ⟨u41, hu41⟩ : ∃ z, z = pSI u38 a14 (x21.toNatClampNeg) r37 := ⟨_, rfl⟩
        rw [← hu41] at hP hD hu hp hkl
        have w42 : (u41.2.2.1 a14 2).toInt = (u38.2.2.1 a14 2).toInt := by rw [hu41]; exact congrArg Int32.toInt (if_neg (fun q => by have y := q.2; have z := cl_int (x := x21) (by (try simp only [i_lt, i_le, i_eq, Int32.toInt_toInt64, Int32.reduceToInt, Int64.reduceToInt, true_and, and_true, false_and, and_false, false_or, or_false, true_or, or_true, not_true_eq_false, not_false_eq_true, ne_eq, forall_const, true_implies, false_implies, implies_true] at g_v1 ex0 ex1 tx1 w5 hr2 gr2 w7 tx8 w12 hr9 gr9 w14 tx15 er16 w20 tx21 er22 har22 w36 w40 hr37 gr37 ⊢) <;> omega); (try simp only [i_lt, i_le, i_eq, Int32.toInt_toInt64, Int32.reduceToInt, Int64.reduceToInt, true_and, and_true, false_and, and_false, false_or, or_false, true_or, or_true, not_true_eq_false, not_false_eq_true, ne_eq, forall_const, true_implies, false_implies, implies_true] at g_v1 ex0 ex1 tx1 w5 hr2 gr2 w7 tx8 w12 hr9 gr9 w14 tx15 er16 w20 tx21 er22 har22 w36 w40 hr37 gr37 y z ⊢) <;> omega))
        refine lv_aload_n hx hb dX12_readPipe_209 rfl (lv_at hl 0 rfl) ?_
        have k_h0 : u41.2.1 h0 = 12 := (hp h0 m0_h0).2.1.trans k0_h0
        have m_h0 : h0 ∈ u41.1 := (hp h0 m0_h0).1
        have k_a14 : u41.2.1 a14 = 51 := (hp a14 m0_a14).2.1.trans k0_a14
        have m_a14 : a14 ∈ u41.1 := (hp a14 m0_a14).1
        refine rvi (C := RX12) (As := []) (rest := []) ⟨hx, hb, hml, hown, hts⟩ (t_X12_good l D k u41 hu h0 m_h0 k_h0 ) (cwV 0 hts gX12_readPipe_X12_good rfl rfl rfl (by decide +kernel) ⟨Nat.le_of_ble_eq_true rfl, Nat.le_of_ble_eq_true rfl⟩) hP hK (precv hK hP m_h0 (cF12 k_h0) rfl) rfl hl.1 rfl (Nat.le_of_ble_eq_true rfl) dX12_readPipe_210 ⟨Nat.le_of_ble_eq_true rfl, Nat.le_of_ble_eq_true rfl⟩ (fun r43 hr43 => ?_)
        refine lv_if_eq (tgt := 226) hx hb dX12_readPipe_213 (by decide) (fun c44 => ?_) (fun c44 => ?_)
        · have eb45 : r43.toInt = 0 := by rcases hr43 with ⟨q, -⟩ | ⟨q, -⟩; exact q; (exact absurd (c44) (fun w => by rw [w] at q; exact absurd q (by decide)))
          have fb45 : (u41.2.2.1 h0 12).toInt ≠ 0 := by rcases hr43 with ⟨q, r⟩ | ⟨q, r⟩; exact r; exact absurd q (by omega)
          clear hr43
          exact W.vret hx hb hr (fun t ht hW => ⟨⟨u41, rfl, ⟨hu, hp, hkl, trivial⟩, by rw [ht]; exact hP, hD⟩, hS.F ht⟩) hS.2.2 dX12_readPipe_226
        · have eb46 : r43.toInt = 1 := by rcases hr43 with ⟨q, -⟩ | ⟨q, -⟩; exact absurd (i_eq.mpr q) c44; exact q
          have fb46 : (u41.2.2.1 h0 12).toInt = 0 := by rcases hr43 with ⟨q, r⟩ | ⟨q, r⟩; exact absurd q (by omega); exact r
          clear hr43
          refine lv_aload_n hx hb dX12_readPipe_216 rfl (lv_at hl 0 rfl) ?_
          refine pget (ci := 12) (v := va_rf (u41.2.2.2.2 h0 14)) (C := RX12) (T := TX12) (N := 34) hx hb hts i_X12 hown hK hP m_h0 (cF12 k_h0) rfl 14 (by decide) (hts (.fieldLink RX12 34 "BellowsRowModel" "fresh" "[I") (by decide +kernel)) (fun _ h9 => h9) rfl dX12_readPipe_217 ?_
          refine W.eq (g2 := F0 m 220 ls [.ref a14]) (by rw [(((hp h0 m0_h0).2.2.2.2.2.1 k0_h0 14).trans q0_14)]; rfl) ?_
          refine lv_iconst (v := 2) hx hb dX12_readPipe_220 (by decide) ?_
          refine lv_dup2_11 hx hb dX12_readPipe_221 rfl rfl ?_
          refine palI hx hb hK hP m_a14 (cF51 k_a14) 1 rfl (vp_in_iff.mpr (by decide)) dX12_readPipe_222 ?_
          refine lv_topi (fun x47 ex47 => ?_)
          have tx47 : x47.toInt = (u41.2.2.1 a14 2).toInt := congrArg Int32.toInt ex47
          have g48 : 0 ≤ x47.toInt ∧ x47.toInt ≤ 12 := by have g : okI (u41.2.1 a14) (2) (u41.2.2.1 a14 (2)) := (hu a14 m_a14).2.2.2 (2); rw [k_a14, ← (show x47 = u41.2.2.1 a14 (2) from ex47)] at g; have g : okW (2) x47 := g; unfold okW at g; (try simp only [i_lt, i_le, i_eq, Int32.toInt_toInt64, Int32.reduceToInt, Int64.reduceToInt, true_and, and_true, false_and, and_false, false_or, or_false, true_or, or_true, not_true_eq_false, not_false_eq_true, ne_eq, forall_const, true_implies, false_implies, implies_true] at g_v1 ex0 ex1 tx1 w5 hr2 gr2 w7 tx8 w12 hr9 gr9 w14 tx15 er16 w20 tx21 er22 har22 w36 w40 hr37 gr37 w42 eb46 fb46 tx47 g ⊢) <;> omega
          refine lv_iconst (v := 1) hx hb dX12_readPipe_223 (by decide) ?_
          refine lv_iadd hx hb dX12_readPipe_224 ?_
          refine lv_topi (fun x49 ex49 => ?_)
          have tx49 : x49.toInt = x47.toInt + (1 : Int32).toInt := by rw [ex49]; exact i_add (by (try simp only [i_lt, i_le, i_eq, Int32.toInt_toInt64, Int32.reduceToInt, Int64.reduceToInt, true_and, and_true, false_and, and_false, false_or, or_false, true_or, or_true, not_true_eq_false, not_false_eq_true, ne_eq, forall_const, true_implies, false_implies, implies_true] at g_v1 ex0 ex1 tx1 w5 hr2 gr2 w7 tx8 w12 hr9 gr9 w14 tx15 er16 w20 tx21 er22 har22 w36 w40 hr37 gr37 w42 eb46 fb46 tx47 g48 ⊢) <;> omega) (by (try simp only [i_lt, i_le, i_eq, Int32.toInt_toInt64, Int32.reduceToInt, Int64.reduceToInt, true_and, and_true, false_and, and_false, false_or, or_false, true_or, or_true, not_true_eq_false, not_false_eq_true, ne_eq, forall_const, true_implies, false_implies, implies_true] at g_v1 ex0 ex1 tx1 w5 hr2 gr2 w7 tx8 w12 hr9 gr9 w14 tx15 er16 w20 tx21 er22 har22 w36 w40 hr37 gr37 w42 eb46 fb46 tx47 g48 ⊢) <;> omega)
          refine pasI (u' := pSI u41 a14 2 x49) hx hb hK hP hD hS m_a14 (cF51 k_a14) 1 rfl (vp_in_iff.mpr (by decide)) rfl (sF51 k_a14 _ _) dX12_readPipe_225 (fun H locs hP hD hS => ?_)
          have hu := WT.setI (a := a14) (s := 2) (v := x49) hu (by rw [k_a14]; exact (show okW 2 x49 from by unfold okW; (try simp only [i_lt, i_le, i_eq, Int32.toInt_toInt64, Int32.reduceToInt, Int64.reduceToInt, true_and, and_true, false_and, and_false, false_or, or_false, true_or, or_true, not_true_eq_false, not_false_eq_true, ne_eq, forall_const, true_implies, false_implies, implies_true] at g_v1 ex0 ex1 tx1 w5 hr2 gr2 w7 tx8 w12 hr9 gr9 w14 tx15 er16 w20 tx21 er22 har22 w36 w40 hr37 gr37 w42 eb46 fb46 tx47 g48 tx49 ⊢) <;> omega))
          have hkl := KL.setF (a := a14) (s := 2) (v := x49) hkl (by (try simp only [i_lt, i_le, i_eq, Int32.toInt_toInt64, Int32.reduceToInt, Int64.reduceToInt, true_and, and_true, false_and, and_false, false_or, or_false, true_or, or_true, not_true_eq_false, not_false_eq_true, ne_eq, forall_const, true_implies, false_implies, implies_true] at g_v1 ex0 ex1 tx1 w5 hr2 gr2 w7 tx8 w12 hr9 gr9 w14 tx15 er16 w20 tx21 er22 har22 w36 w40 hr37 gr37 w42 eb46 fb46 tx47 g48 tx49 ⊢) <;> omega)
          have hp := PX.setI (a := a14) (s := 2) (v := x49) hp (by rw [k_a14]; decide)
          obtain ⟨u50, hu50⟩ : ∃ z, z = pSI u41 a14 2 x49 := ⟨_, rfl⟩
          rw [← hu50] at hP hD hu hp hkl
          have w51 : (u50.2.2.1 a14 2).toInt = x49.toInt := by rw [hu50]; exact congrArg Int32.toInt (if_pos ⟨rfl, rfl⟩)
          exact W.vret hx hb hr (fun t ht hW => ⟨⟨u50, rfl, ⟨hu, hp, hkl, trivial⟩, by rw [ht]; exact hP, hD⟩, hS.F ht⟩) hS.2.2 dX12_readPipe_226
    · have hkl := KL.trans hkl hp z18.toL
      have hp := PX.trans hp hxu17
      have w52 : (u17.2.2.1 a14 2).toInt = (u13.2.2.1 a14 2).toInt := congrArg Int32.toInt (z18 a14 m_a14 k_a14 2)
      refine lv_if_eq (tgt := 177) hx hb dX12_readPipe_170 (by decide) (fun h => absurd h (by (try simp only [i_lt, i_le, i_eq, Int32.toInt_toInt64, Int32.reduceToInt, Int64.reduceToInt, true_and, and_true, false_and, and_false, false_or, or_false, true_or, or_true, not_true_eq_false, not_false_eq_true, ne_eq, forall_const, true_implies, false_implies, implies_true] at g_v1 ex0 ex1 tx1 w5 hr2 gr2 w7 tx8 w12 hr9 gr9 w14 tx15 er16 har16 w52 ⊢) <;> omega)) (fun _ => ?_)
      refine lv_iconst (v := 1) hx hb dX12_readPipe_173 (by decide) ?_
      refine lv_goto (tgt := 178) hx hb dX12_readPipe_174 (by decide) ?_
      have k_h0 : u17.2.1 h0 = 12 := (hp h0 m0_h0).2.1.trans k0_h0
      have m_h0 : h0 ∈ u17.1 := (hp h0 m0_h0).1
      have k_a14 : u17.2.1 a14 = 51 := (hp a14 m0_a14).2.1.trans k0_a14
      have m_a14 : a14 ∈ u17.1 := (hp a14 m0_a14).1
      refine pasI (u' := pSI u17 a14 (x15.toNatClampNeg) 1) hx hb hK hP hD hS m_a14 (cF51 k_a14) 1 rfl (vp_in_iff.mpr (by (try simp only [i_lt, i_le, i_eq, Int32.toInt_toInt64, Int32.reduceToInt, Int64.reduceToInt, true_and, and_true, false_and, and_false, false_or, or_false, true_or, or_true, not_true_eq_false, not_false_eq_true, ne_eq, forall_const, true_implies, false_implies, implies_true] at g_v1 ex0 ex1 tx1 w5 hr2 gr2 w7 tx8 w12 hr9 gr9 w14 tx15 er16 har16 w52 ⊢) <;> omega)) rfl (sF51 k_a14 _ _) dX12_readPipe_178 (fun H locs hP hD hS => ?_)
      have hu := WT.setI (a := a14) (s := (x15.toNatClampNeg)) (v := 1) hu (by rw [k_a14]; exact (show okW (x15.toNatClampNeg) (1 : Int32) from by unfold okW; have z := cl_int (x := x15) (by (try simp only [i_lt, i_le, i_eq, Int32.toInt_toInt64, Int32.reduceToInt, Int64.reduceToInt, true_and, and_true, false_and, and_false, false_or, or_false, true_or, or_true, not_true_eq_false, not_false_eq_true, ne_eq, forall_const, true_implies, false_implies, implies_true] at g_v1 ex0 ex1 tx1 w5 hr2 gr2 w7 tx8 w12 hr9 gr9 w14 tx15 er16 har16 w52 ⊢) <;> omega); (try simp only [i_lt, i_le, i_eq, Int32.toInt_toInt64, Int32.reduceToInt, Int64.reduceToInt, true_and, and_true, false_and, and_false, false_or, or_false, true_or, or_true, not_true_eq_false, not_false_eq_true, ne_eq, forall_const, true_implies, false_implies, implies_true] at g_v1 ex0 ex1 tx1 w5 hr2 gr2 w7 tx8 w12 hr9 gr9 w14 tx15 er16 har16 w52 z ⊢) <;> omega))
      have hkl := KL.setF (a := a14) (s := (x15.toNatClampNeg)) (v := 1) hkl (by have z := cl_int (x := x15) (by (try simp only [i_lt, i_le, i_eq, Int32.toInt_toInt64, Int32.reduceToInt, Int64.reduceToInt, true_and, and_true, false_and, and_false, false_or, or_false, true_or, or_true, not_true_eq_false, not_false_eq_true, ne_eq, forall_const, true_implies, false_implies, implies_true] at g_v1 ex0 ex1 tx1 w5 hr2 gr2 w7 tx8 w12 hr9 gr9 w14 tx15 er16 har16 w52 ⊢) <;> omega); (try simp only [i_lt, i_le, i_eq, Int32.toInt_toInt64, Int32.reduceToInt, Int64.reduceToInt, true_and, and_true, false_and, and_false, false_or, or_false, true_or, or_true, not_true_eq_false, not_false_eq_true, ne_eq, forall_const, true_implies, false_implies, implies_true] at g_v1 ex0 ex1 tx1 w5 hr2 gr2 w7 tx8 w12 hr9 gr9 w14 tx15 er16 har16 w52 z ⊢) <;> omega)
      have hp := PX.setI (a := a14) (s := (x15.toNatClampNeg)) (v := 1) hp (by rw [k_a14]; decide)
      obtain ⟨u53, hu53⟩ : ∃ z, z = pSI u17 a14 (x15.toNatClampNeg) 1 := ⟨_, rfl⟩
      rw [← hu53] at hP hD hu hp hkl
      have w54 : (u53.2.2.1 a14 2).toInt = (u17.2.2.1 a14 2).toInt := by rw [hu53]; exact congrArg Int32.toInt (if_neg (fun q => by have y := q.2; have z := cl_int (x := x15) (by (try simp only [i_lt, i_le, i_eq, Int32.toInt_toInt64, Int32.reduceToInt, Int64.reduceToInt, true_and, and_true, false_and, and_false, false_or, or_false, true_or, or_true, not_true_eq_false, not_false_eq_true, ne_eq, forall_const, true_implies, false_implies, implies_true] at g_v1 ex0 ex1 tx1 w5 hr2 gr2 w7 tx8 w12 hr9 gr9 w14 tx15 er16 har16 w52 ⊢) <;> omega); (try simp only [i_lt, i_le, i_eq, Int32.toInt_toInt64, Int32.reduceToInt, Int64.reduceToInt, true_and, and_true, false_and, and_false, false_or, or_false, true_or, or_true, not_true_eq_false, not_false_eq_true, ne_eq, forall_const, true_implies, false_implies, implies_true] at g_v1 ex0 ex1 tx1 w5 hr2 gr2 w7 tx8 w12 hr9 gr9 w14 tx15 er16 har16 w52 y z ⊢) <;> omega))
      refine lv_aload_n hx hb dX12_readPipe_179 rfl (lv_at hl 0 rfl) ?_
      have k_h0 : u53.2.1 h0 = 12 := (hp h0 m0_h0).2.1.trans k0_h0
      have m_h0 : h0 ∈ u53.1 := (hp h0 m0_h0).1
      have k_a14 : u53.2.1 a14 = 51 := (hp a14 m0_a14).2.1.trans k0_a14
      have m_a14 : a14 ∈ u53.1 := (hp a14 m0_a14).1
      refine pget (ci := 12) (v := va_rf (u53.2.2.2.2 h0 14)) (C := RX12) (T := TX12) (N := 34) hx hb hts i_X12 hown hK hP m_h0 (cF12 k_h0) rfl 14 (by decide) (hts (.fieldLink RX12 34 "BellowsRowModel" "fresh" "[I") (by decide +kernel)) (fun _ h9 => h9) rfl dX12_readPipe_180 ?_
      refine W.eq (g2 := F0 m 183 ls [.ref a14]) (by rw [(((hp h0 m0_h0).2.2.2.2.2.1 k0_h0 14).trans q0_14)]; rfl) ?_
      refine lv_iload_n hx hb dX12_readPipe_183 rfl (lv_at hl 1 rfl) ?_
      refine lv_bipush (v := 7) hx hb dX12_readPipe_184 (by decide) ?_
      refine lv_iadd hx hb dX12_readPipe_186 ?_
      refine lv_topi (fun x55 ex55 => ?_)
      have tx55 : x55.toInt = v1.toInt + (7 : Int32).toInt := by rw [ex55]; exact i_add (by (try simp only [i_lt, i_le, i_eq, Int32.toInt_toInt64, Int32.reduceToInt, Int64.reduceToInt, true_and, and_true, false_and, and_false, false_or, or_false, true_or, or_true, not_true_eq_false, not_false_eq_true, ne_eq, forall_const, true_implies, false_implies, implies_true] at g_v1 ex0 ex1 tx1 w5 hr2 gr2 w7 tx8 w12 hr9 gr9 w14 tx15 er16 har16 w52 w54 ⊢) <;> omega) (by (try simp only [i_lt, i_le, i_eq, Int32.toInt_toInt64, Int32.reduceToInt, Int64.reduceToInt, true_and, and_true, false_and, and_false, false_or, or_false, true_or, or_true, not_true_eq_false, not_false_eq_true, ne_eq, forall_const, true_implies, false_implies, implies_true] at g_v1 ex0 ex1 tx1 w5 hr2 gr2 w7 tx8 w12 hr9 gr9 w14 tx15 er16 har16 w52 w54 ⊢) <;> omega)
      refine lv_aload_n hx hb dX12_readPipe_187 rfl (lv_at hl 0 rfl) ?_
      refine va_ldcS (own := RX12) (tx := "stay") (q := tt.1 55) hx hb hown (hE.2.1 (RX12, 213, "stay", 55) (by decide +kernel)) dX12_readPipe_188 ?_
      refine xiV (C := RX12) (As := [.ref (tt.1 55)]) (rest := [.int x55, .ref a14]) ⟨hx, hb, hml, hown, hts⟩ (fun sz => t_X12_takes l D k tt u53 hu h0 m_h0 k_h0 55 (by decide) sz) (cwV 1 hts gX12_readPipe_X12_takes rfl rfl rfl (by decide +kernel) ⟨Nat.le_of_ble_eq_true rfl, Nat.le_of_ble_eq_true rfl⟩) hP hK hD hN hE hS hA (precv hK hP m_h0 (cF12 k_h0) rfl) rfl hl.1 rfl (Nat.le_of_ble_eq_true rfl) dX12_readPipe_190 ⟨Nat.le_of_ble_eq_true rfl, Nat.le_of_ble_eq_true rfl⟩ (fun r56 u57 H locs hqu57 hP hD hS => ?_)
      obtain ⟨hu, hxu57, z58, hr56⟩ := hqu57
      rcases hr56 with ⟨er56, hnr56, sameu57⟩ | ⟨er56, hir56, har56⟩
      · have sameu57 := sameu57.symm
        subst sameu57
        refine lv_if_eq (tgt := 207) hx hb dX12_readPipe_193 (by decide) (fun _ => ?_) (fun h => absurd (by (try simp only [i_lt, i_le, i_eq, Int32.toInt_toInt64, Int32.reduceToInt, Int64.reduceToInt, true_and, and_true, false_and, and_false, false_or, or_false, true_or, or_true, not_true_eq_false, not_false_eq_true, ne_eq, forall_const, true_implies, false_implies, implies_true] at g_v1 ex0 ex1 tx1 w5 hr2 gr2 w7 tx8 w12 hr9 gr9 w14 tx15 er16 har16 w52 w54 tx55 er56 ⊢) <;> omega) h)
        refine lv_iconst (v := 0) hx hb dX12_readPipe_207 (by decide) ?_
        refine pasI (u' := pSI u53 a14 (x55.toNatClampNeg) 0) hx hb hK hP hD hS m_a14 (cF51 k_a14) 1 rfl (vp_in_iff.mpr (by (try simp only [i_lt, i_le, i_eq, Int32.toInt_toInt64, Int32.reduceToInt, Int64.reduceToInt, true_and, and_true, false_and, and_false, false_or, or_false, true_or, or_true, not_true_eq_false, not_false_eq_true, ne_eq, forall_const, true_implies, false_implies, implies_true] at g_v1 ex0 ex1 tx1 w5 hr2 gr2 w7 tx8 w12 hr9 gr9 w14 tx15 er16 har16 w52 w54 tx55 er56 ⊢) <;> omega)) rfl (sF51 k_a14 _ _) dX12_readPipe_208 (fun H locs hP hD hS => ?_)
        have hu := WT.setI (a := a14) (s := (x55.toNatClampNeg)) (v := 0) hu (by rw [k_a14]; exact (show okW (x55.toNatClampNeg) (0 : Int32) from by unfold okW; have z := cl_int (x := x55) (by (try simp only [i_lt, i_le, i_eq, Int32.toInt_toInt64, Int32.reduceToInt, Int64.reduceToInt, true_and, and_true, false_and, and_false, false_or, or_false, true_or, or_true, not_true_eq_false, not_false_eq_true, ne_eq, forall_const, true_implies, false_implies, implies_true] at g_v1 ex0 ex1 tx1 w5 hr2 gr2 w7 tx8 w12 hr9 gr9 w14 tx15 er16 har16 w52 w54 tx55 er56 ⊢) <;> omega); (try simp only [i_lt, i_le, i_eq, Int32.toInt_toInt64, Int32.reduceToInt, Int64.reduceToInt, true_and, and_true, false_and, and_false, false_or, or_false, true_or, or_true, not_true_eq_false, not_false_eq_true, ne_eq, forall_const, true_implies, false_implies, implies_true] at g_v1 ex0 ex1 tx1 w5 hr2 gr2 w7 tx8 w12 hr9 gr9 w14 tx15 er16 har16 w52 w54 tx55 er56 z ⊢) <;> omega))
        have hkl := KL.setF (a := a14) (s := (x55.toNatClampNeg)) (v := 0) hkl (by have z := cl_int (x := x55) (by (try simp only [i_lt, i_le, i_eq, Int32.toInt_toInt64, Int32.reduceToInt, Int64.reduceToInt, true_and, and_true, false_and, and_false, false_or, or_false, true_or, or_true, not_true_eq_false, not_false_eq_true, ne_eq, forall_const, true_implies, false_implies, implies_true] at g_v1 ex0 ex1 tx1 w5 hr2 gr2 w7 tx8 w12 hr9 gr9 w14 tx15 er16 har16 w52 w54 tx55 er56 ⊢) <;> omega); (try simp only [i_lt, i_le, i_eq, Int32.toInt_toInt64, Int32.reduceToInt, Int64.reduceToInt, true_and, and_true, false_and, and_false, false_or, or_false, true_or, or_true, not_true_eq_false, not_false_eq_true, ne_eq, forall_const, true_implies, false_implies, implies_true] at g_v1 ex0 ex1 tx1 w5 hr2 gr2 w7 tx8 w12 hr9 gr9 w14 tx15 er16 har16 w52 w54 tx55 er56 z ⊢) <;> omega)
        have hp := PX.setI (a := a14) (s := (x55.toNatClampNeg)) (v := 0) hp (by rw [k_a14]; decide)
        obtain ⟨u59, hu59⟩ : ∃ z, z = pSI u53 a14 (x55.toNatClampNeg) 0 := ⟨_, rfl⟩
        rw [← hu59] at hP hD hu hp hkl
        have w60 : (u59.2.2.1 a14 2).toInt = (u53.2.2.1 a14 2).toInt := by rw [hu59]; exact congrArg Int32.toInt (if_neg (fun q => by have y := q.2; have z := cl_int (x := x55) (by (try simp only [i_lt, i_le, i_eq, Int32.toInt_toInt64, Int32.reduceToInt, Int64.reduceToInt, true_and, and_true, false_and, and_false, false_or, or_false, true_or, or_true, not_true_eq_false, not_false_eq_true, ne_eq, forall_const, true_implies, false_implies, implies_true] at g_v1 ex0 ex1 tx1 w5 hr2 gr2 w7 tx8 w12 hr9 gr9 w14 tx15 er16 har16 w52 w54 tx55 er56 ⊢) <;> omega); (try simp only [i_lt, i_le, i_eq, Int32.toInt_toInt64, Int32.reduceToInt, Int64.reduceToInt, true_and, and_true, false_and, and_false, false_or, or_false, true_or, or_true, not_true_eq_false, not_false_eq_true, ne_eq, forall_const, true_implies, false_implies, implies_true] at g_v1 ex0 ex1 tx1 w5 hr2 gr2 w7 tx8 w12 hr9 gr9 w14 tx15 er16 har16 w52 w54 tx55 er56 y z ⊢) <;> omega))
        refine lv_aload_n hx hb dX12_readPipe_209 rfl (lv_at hl 0 rfl) ?_
        have k_h0 : u59.2.1 h0 = 12 := (hp h0 m0_h0).2.1.trans k0_h0
        have m_h0 : h0 ∈ u59.1 := (hp h0 m0_h0).1
        have k_a14 : u59.2.1 a14 = 51 := (hp a14 m0_a14).2.1.trans k0_a14
        have m_a14 : a14 ∈ u59.1 := (hp a14 m0_a14).1
        refine rvi (C := RX12) (As := []) (rest := []) ⟨hx, hb, hml, hown, hts⟩ (t_X12_good l D k u59 hu h0 m_h0 k_h0 ) (cwV 0 hts gX12_readPipe_X12_good rfl rfl rfl (by decide +kernel) ⟨Nat.le_of_ble_eq_true rfl, Nat.le_of_ble_eq_true rfl⟩) hP hK (precv hK hP m_h0 (cF12 k_h0) rfl) rfl hl.1 rfl (Nat.le_of_ble_eq_true rfl) dX12_readPipe_210 ⟨Nat.le_of_ble_eq_true rfl, Nat.le_of_ble_eq_true rfl⟩ (fun r61 hr61 => ?_)
        refine lv_if_eq (tgt := 226) hx hb dX12_readPipe_213 (by decide) (fun c62 => ?_) (fun c62 => ?_)
        · have eb63 : r61.toInt = 0 := by rcases hr61 with ⟨q, -⟩ | ⟨q, -⟩; exact q; (exact absurd (c62) (fun w => by rw [w] at q; exact absurd q (by decide)))
          have fb63 : (u59.2.2.1 h0 12).toInt ≠ 0 := by rcases hr61 with ⟨q, r⟩ | ⟨q, r⟩; exact r; exact absurd q (by omega)
          clear hr61
          exact W.vret hx hb hr (fun t ht hW => ⟨⟨u59, rfl, ⟨hu, hp, hkl, trivial⟩, by rw [ht]; exact hP, hD⟩, hS.F ht⟩) hS.2.2 dX12_readPipe_226
        · have eb64 : r61.toInt = 1 := by rcases hr61 with ⟨q, -⟩ | ⟨q, -⟩; exact absurd (i_eq.mpr q) c62; exact q
          have fb64 : (u59.2.2.1 h0 12).toInt = 0 := by rcases hr61 with ⟨q, r⟩ | ⟨q, r⟩; exact absurd q (by omega); exact r
          clear hr61
          refine lv_aload_n hx hb dX12_readPipe_216 rfl (lv_at hl 0 rfl) ?_
          refine pget (ci := 12) (v := va_rf (u59.2.2.2.2 h0 14)) (C := RX12) (T := TX12) (N := 34) hx hb hts i_X12 hown hK hP m_h0 (cF12 k_h0) rfl 14 (by decide) (hts (.fieldLink RX12 34 "BellowsRowModel" "fresh" "[I") (by decide +kernel)) (fun _ h9 => h9) rfl dX12_readPipe_217 ?_
          refine W.eq (g2 := F0 m 220 ls [.ref a14]) (by rw [(((hp h0 m0_h0).2.2.2.2.2.1 k0_h0 14).trans q0_14)]; rfl) ?_
          refine lv_iconst (v := 2) hx hb dX12_readPipe_220 (by decide) ?_
          refine lv_dup2_11 hx hb dX12_readPipe_221 rfl rfl ?_
          refine palI hx hb hK hP m_a14 (cF51 k_a14) 1 rfl (vp_in_iff.mpr (by decide)) dX12_readPipe_222 ?_
          refine lv_topi (fun x65 ex65 => ?_)
          have tx65 : x65.toInt = (u59.2.2.1 a14 2).toInt := congrArg Int32.toInt ex65
          have g66 : 0 ≤ x65.toInt ∧ x65.toInt ≤ 12 := by have g : okI (u59.2.1 a14) (2) (u59.2.2.1 a14 (2)) := (hu a14 m_a14).2.2.2 (2); rw [k_a14, ← (show x65 = u59.2.2.1 a14 (2) from ex65)] at g; have g : okW (2) x65 := g; unfold okW at g; (try simp only [i_lt, i_le, i_eq, Int32.toInt_toInt64, Int32.reduceToInt, Int64.reduceToInt, true_and, and_true, false_and, and_false, false_or, or_false, true_or, or_true, not_true_eq_false, not_false_eq_true, ne_eq, forall_const, true_implies, false_implies, implies_true] at g_v1 ex0 ex1 tx1 w5 hr2 gr2 w7 tx8 w12 hr9 gr9 w14 tx15 er16 har16 w52 w54 tx55 er56 w60 eb64 fb64 tx65 g ⊢) <;> omega
          refine lv_iconst (v := 1) hx hb dX12_readPipe_223 (by decide) ?_
          refine lv_iadd hx hb dX12_readPipe_224 ?_
          refine lv_topi (fun x67 ex67 => ?_)
          have tx67 : x67.toInt = x65.toInt + (1 : Int32).toInt := by rw [ex67]; exact i_add (by (try simp only [i_lt, i_le, i_eq, Int32.toInt_toInt64, Int32.reduceToInt, Int64.reduceToInt, true_and, and_true, false_and, and_false, false_or, or_false, true_or, or_true, not_true_eq_false, not_false_eq_true, ne_eq, forall_const, true_implies, false_implies, implies_true] at g_v1 ex0 ex1 tx1 w5 hr2 gr2 w7 tx8 w12 hr9 gr9 w14 tx15 er16 har16 w52 w54 tx55 er56 w60 eb64 fb64 tx65 g66 ⊢) <;> omega) (by (try simp only [i_lt, i_le, i_eq, Int32.toInt_toInt64, Int32.reduceToInt, Int64.reduceToInt, true_and, and_true, false_and, and_false, false_or, or_false, true_or, or_true, not_true_eq_false, not_false_eq_true, ne_eq, forall_const, true_implies, false_implies, implies_true] at g_v1 ex0 ex1 tx1 w5 hr2 gr2 w7 tx8 w12 hr9 gr9 w14 tx15 er16 har16 w52 w54 tx55 er56 w60 eb64 fb64 tx65 g66 ⊢) <;> omega)
          refine pasI (u' := pSI u59 a14 2 x67) hx hb hK hP hD hS m_a14 (cF51 k_a14) 1 rfl (vp_in_iff.mpr (by decide)) rfl (sF51 k_a14 _ _) dX12_readPipe_225 (fun H locs hP hD hS => ?_)
          have hu := WT.setI (a := a14) (s := 2) (v := x67) hu (by rw [k_a14]; exact (show okW 2 x67 from by unfold okW; (try simp only [i_lt, i_le, i_eq, Int32.toInt_toInt64, Int32.reduceToInt, Int64.reduceToInt, true_and, and_true, false_and, and_false, false_or, or_false, true_or, or_true, not_true_eq_false, not_false_eq_true, ne_eq, forall_const, true_implies, false_implies, implies_true] at g_v1 ex0 ex1 tx1 w5 hr2 gr2 w7 tx8 w12 hr9 gr9 w14 tx15 er16 har16 w52 w54 tx55 er56 w60 eb64 fb64 tx65 g66 tx67 ⊢) <;> omega))
          have hkl := KL.setF (a := a14) (s := 2) (v := x67) hkl (by (try simp only [i_lt, i_le, i_eq, Int32.toInt_toInt64, Int32.reduceToInt, Int64.reduceToInt, true_and, and_true, false_and, and_false, false_or, or_false, true_or, or_true, not_true_eq_false, not_false_eq_true, ne_eq, forall_const, true_implies, false_implies, implies_true] at g_v1 ex0 ex1 tx1 w5 hr2 gr2 w7 tx8 w12 hr9 gr9 w14 tx15 er16 har16 w52 w54 tx55 er56 w60 eb64 fb64 tx65 g66 tx67 ⊢) <;> omega)
          have hp := PX.setI (a := a14) (s := 2) (v := x67) hp (by rw [k_a14]; decide)
          obtain ⟨u68, hu68⟩ : ∃ z, z = pSI u59 a14 2 x67 := ⟨_, rfl⟩
          rw [← hu68] at hP hD hu hp hkl
          have w69 : (u68.2.2.1 a14 2).toInt = x67.toInt := by rw [hu68]; exact congrArg Int32.toInt (if_pos ⟨rfl, rfl⟩)
          exact W.vret hx hb hr (fun t ht hW => ⟨⟨u68, rfl, ⟨hu, hp, hkl, trivial⟩, by rw [ht]; exact hP, hD⟩, hS.F ht⟩) hS.2.2 dX12_readPipe_226
      · have hkl := KL.trans hkl hp z58.toL
        have hp := PX.trans hp hxu57
        have w70 : (u57.2.2.1 a14 2).toInt = (u53.2.2.1 a14 2).toInt := congrArg Int32.toInt (z58 a14 m_a14 k_a14 2)
        refine lv_if_eq (tgt := 207) hx hb dX12_readPipe_193 (by decide) (fun h => absurd h (by (try simp only [i_lt, i_le, i_eq, Int32.toInt_toInt64, Int32.reduceToInt, Int64.reduceToInt, true_and, and_true, false_and, and_false, false_or, or_false, true_or, or_true, not_true_eq_false, not_false_eq_true, ne_eq, forall_const, true_implies, false_implies, implies_true] at g_v1 ex0 ex1 tx1 w5 hr2 gr2 w7 tx8 w12 hr9 gr9 w14 tx15 er16 har16 w52 w54 tx55 er56 har56 w70 ⊢) <;> omega)) (fun _ => ?_)
        refine lv_aload_n hx hb dX12_readPipe_196 rfl (lv_at hl 0 rfl) ?_
        refine lv_iconst (v := 0) hx hb dX12_readPipe_197 (by decide) ?_
        refine lv_sipush (v := 30000) hx hb dX12_readPipe_198 (by decide) ?_
        have k_h0 : u57.2.1 h0 = 12 := (hp h0 m0_h0).2.1.trans k0_h0
        have m_h0 : h0 ∈ u57.1 := (hp h0 m0_h0).1
        have k_a14 : u57.2.1 a14 = 51 := (hp a14 m0_a14).2.1.trans k0_a14
        have m_a14 : a14 ∈ u57.1 := (hp a14 m0_a14).1
        refine wiV (C := RX12) (As := [.int 0, .int 30000]) (rest := [.int x55, .ref a14]) ⟨hx, hb, hml, hown, hts⟩ (fun sz => t_X12_number l D k u57 hu h0 m_h0 k_h0 0 30000 sz) (cwV 2 hts gX12_readPipe_X12_number rfl rfl rfl (by decide +kernel) ⟨Nat.le_of_ble_eq_true rfl, Nat.le_of_ble_eq_true rfl⟩) hP hK hD hN hS hA (precv hK hP m_h0 (cF12 k_h0) rfl) rfl hl.1 rfl (Nat.le_of_ble_eq_true rfl) dX12_readPipe_201 ⟨Nat.le_of_ble_eq_true rfl, Nat.le_of_ble_eq_true rfl⟩ (fun r71 u72 H locs hqu72 hP hD hS => ?_)
        obtain ⟨hu, hxu72, z73, hr71⟩ := hqu72
        have hkl := KL.trans hkl hp z73.toL
        have hp := PX.trans hp hxu72
        have w74 : (u72.2.2.1 a14 2).toInt = (u57.2.2.1 a14 2).toInt := congrArg Int32.toInt (z73 a14 m_a14 k_a14 2)
        have gr71 : 0 ≤ r71.toInt ∧ r71.toInt ≤ 30000 := by (try simp only [i_lt, i_le, i_eq, Int32.toInt_toInt64, Int32.reduceToInt, Int64.reduceToInt, true_and, and_true, false_and, and_false, false_or, or_false, true_or, or_true, not_true_eq_false, not_false_eq_true, ne_eq, forall_const, true_implies, false_implies, implies_true] at g_v1 ex0 ex1 tx1 w5 hr2 gr2 w7 tx8 w12 hr9 gr9 w14 tx15 er16 har16 w52 w54 tx55 er56 har56 w70 w74 hr71 ⊢) <;> omega
        refine lv_goto (tgt := 208) hx hb dX12_readPipe_204 (by decide) ?_
        have k_h0 : u72.2.1 h0 = 12 := (hp h0 m0_h0).2.1.trans k0_h0
        have m_h0 : h0 ∈ u72.1 := (hp h0 m0_h0).1
        have k_a14 : u72.2.1 a14 = 51 := (hp a14 m0_a14).2.1.trans k0_a14
        have m_a14 : a14 ∈ u72.1 := (hp a14 m0_a14).1
        refine pasI (u' := pSI u72 a14 (x55.toNatClampNeg) r71) hx hb hK hP hD hS m_a14 (cF51 k_a14) 1 rfl (vp_in_iff.mpr (by (try simp only [i_lt, i_le, i_eq, Int32.toInt_toInt64, Int32.reduceToInt, Int64.reduceToInt, true_and, and_true, false_and, and_false, false_or, or_false, true_or, or_true, not_true_eq_false, not_false_eq_true, ne_eq, forall_const, true_implies, false_implies, implies_true] at g_v1 ex0 ex1 tx1 w5 hr2 gr2 w7 tx8 w12 hr9 gr9 w14 tx15 er16 har16 w52 w54 tx55 er56 har56 w70 w74 hr71 gr71 ⊢) <;> omega)) rfl (sF51 k_a14 _ _) dX12_readPipe_208 (fun H locs hP hD hS => ?_)
        have hu := WT.setI (a := a14) (s := (x55.toNatClampNeg)) (v := r71) hu (by rw [k_a14]; exact (show okW (x55.toNatClampNeg) r71 from by unfold okW; have z := cl_int (x := x55) (by (try simp only [i_lt, i_le, i_eq, Int32.toInt_toInt64, Int32.reduceToInt, Int64.reduceToInt, true_and, and_true, false_and, and_false, false_or, or_false, true_or, or_true, not_true_eq_false, not_false_eq_true, ne_eq, forall_const, true_implies, false_implies, implies_true] at g_v1 ex0 ex1 tx1 w5 hr2 gr2 w7 tx8 w12 hr9 gr9 w14 tx15 er16 har16 w52 w54 tx55 er56 har56 w70 w74 hr71 gr71 ⊢) <;> omega); (try simp only [i_lt, i_le, i_eq, Int32.toInt_toInt64, Int32.reduceToInt, Int64.reduceToInt, true_and, and_true, false_and, and_false, false_or, or_false, true_or, or_true, not_true_eq_false, not_false_eq_true, ne_eq, forall_const, true_implies, false_implies, implies_true] at g_v1 ex0 ex1 tx1 w5 hr2 gr2 w7 tx8 w12 hr9 gr9 w14 tx15 er16 har16 w52 w54 tx55 er56 har56 w70 w74 hr71 gr71 z ⊢) <;> omega))
        have hkl := KL.setF (a := a14) (s := (x55.toNatClampNeg)) (v := r71) hkl (by have z := cl_int (x := x55) (by (try simp only [i_lt, i_le, i_eq, Int32.toInt_toInt64, Int32.reduceToInt, Int64.reduceToInt, true_and, and_true, false_and, and_false, false_or, or_false, true_or, or_true, not_true_eq_false, not_false_eq_true, ne_eq, forall_const, true_implies, false_implies, implies_true] at g_v1 ex0 ex1 tx1 w5 hr2 gr2 w7 tx8 w12 hr9 gr9 w14 tx15 er16 har16 w52 w54 tx55 er56 har56 w70 w74 hr71 gr71 ⊢) <;> omega); (try simp only [i_lt, i_le, i_eq, Int32.toInt_toInt64, Int32.reduceToInt, Int64.reduceToInt, true_and, and_true, false_and, and_false, false_or, or_false, true_or, or_true, not_true_eq_false, not_false_eq_true, ne_eq, forall_const, true_implies, false_implies, implies_true] at g_v1 ex0 ex1 tx1 w5 hr2 gr2 w7 tx8 w12 hr9 gr9 w14 tx15 er16 har16 w52 w54 tx55 er56 har56 w70 w74 hr71 gr71 z ⊢) <;> omega)
        have hp := PX.setI (a := a14) (s := (x55.toNatClampNeg)) (v := r71) hp (by rw [k_a14]; decide)
        obtain ⟨u75, hu75⟩ : ∃ z, z = pSI u72 a14 (x55.toNatClampNeg) r71 := ⟨_, rfl⟩
        rw [← hu75] at hP hD hu hp hkl
        have w76 : (u75.2.2.1 a14 2).toInt = (u72.2.2.1 a14 2).toInt := by rw [hu75]; exact congrArg Int32.toInt (if_neg (fun q => by have y := q.2; have z := cl_int (x := x55) (by (try simp only [i_lt, i_le, i_eq, Int32.toInt_toInt64, Int32.reduceToInt, Int64.reduceToInt, true_and, and_true, false_and, and_false, false_or, or_false, true_or, or_true, not_true_eq_false, not_false_eq_true, ne_eq, forall_const, true_implies, false_implies, implies_true] at g_v1 ex0 ex1 tx1 w5 hr2 gr2 w7 tx8 w12 hr9 gr9 w14 tx15 er16 har16 w52 w54 tx55 er56 har56 w70 w74 hr71 gr71 ⊢) <;> omega); (try simp only [i_lt, i_le, i_eq, Int32.toInt_toInt64, Int32.reduceToInt, Int64.reduceToInt, true_and, and_true, false_and, and_false, false_or, or_false, true_or, or_true, not_true_eq_false, not_false_eq_true, ne_eq, forall_const, true_implies, false_implies, implies_true] at g_v1 ex0 ex1 tx1 w5 hr2 gr2 w7 tx8 w12 hr9 gr9 w14 tx15 er16 har16 w52 w54 tx55 er56 har56 w70 w74 hr71 gr71 y z ⊢) <;> omega))
        refine lv_aload_n hx hb dX12_readPipe_209 rfl (lv_at hl 0 rfl) ?_
        have k_h0 : u75.2.1 h0 = 12 := (hp h0 m0_h0).2.1.trans k0_h0
        have m_h0 : h0 ∈ u75.1 := (hp h0 m0_h0).1
        have k_a14 : u75.2.1 a14 = 51 := (hp a14 m0_a14).2.1.trans k0_a14
        have m_a14 : a14 ∈ u75.1 := (hp a14 m0_a14).1
        refine rvi (C := RX12) (As := []) (rest := []) ⟨hx, hb, hml, hown, hts⟩ (t_X12_good l D k u75 hu h0 m_h0 k_h0 ) (cwV 0 hts gX12_readPipe_X12_good rfl rfl rfl (by decide +kernel) ⟨Nat.le_of_ble_eq_true rfl, Nat.le_of_ble_eq_true rfl⟩) hP hK (precv hK hP m_h0 (cF12 k_h0) rfl) rfl hl.1 rfl (Nat.le_of_ble_eq_true rfl) dX12_readPipe_210 ⟨Nat.le_of_ble_eq_true rfl, Nat.le_of_ble_eq_true rfl⟩ (fun r77 hr77 => ?_)
        refine lv_if_eq (tgt := 226) hx hb dX12_readPipe_213 (by decide) (fun c78 => ?_) (fun c78 => ?_)
        · have eb79 : r77.toInt = 0 := by rcases hr77 with ⟨q, -⟩ | ⟨q, -⟩; exact q; (exact absurd (c78) (fun w => by rw [w] at q; exact absurd q (by decide)))
          have fb79 : (u75.2.2.1 h0 12).toInt ≠ 0 := by rcases hr77 with ⟨q, r⟩ | ⟨q, r⟩; exact r; exact absurd q (by omega)
          clear hr77
          exact W.vret hx hb hr (fun t ht hW => ⟨⟨u75, rfl, ⟨hu, hp, hkl, trivial⟩, by rw [ht]; exact hP, hD⟩, hS.F ht⟩) hS.2.2 dX12_readPipe_226
        · have eb80 : r77.toInt = 1 := by rcases hr77 with ⟨q, -⟩ | ⟨q, -⟩; exact absurd (i_eq.mpr q) c78; exact q
          have fb80 : (u75.2.2.1 h0 12).toInt = 0 := by rcases hr77 with ⟨q, r⟩ | ⟨q, r⟩; exact absurd q (by omega); exact r
          clear hr77
          refine lv_aload_n hx hb dX12_readPipe_216 rfl (lv_at hl 0 rfl) ?_
          refine pget (ci := 12) (v := va_rf (u75.2.2.2.2 h0 14)) (C := RX12) (T := TX12) (N := 34) hx hb hts i_X12 hown hK hP m_h0 (cF12 k_h0) rfl 14 (by decide) (hts (.fieldLink RX12 34 "BellowsRowModel" "fresh" "[I") (by decide +kernel)) (fun _ h9 => h9) rfl dX12_readPipe_217 ?_
          refine W.eq (g2 := F0 m 220 ls [.ref a14]) (by rw [(((hp h0 m0_h0).2.2.2.2.2.1 k0_h0 14).trans q0_14)]; rfl) ?_
          refine lv_iconst (v := 2) hx hb dX12_readPipe_220 (by decide) ?_
          refine lv_dup2_11 hx hb dX12_readPipe_221 rfl rfl ?_
          refine palI hx hb hK hP m_a14 (cF51 k_a14) 1 rfl (vp_in_iff.mpr (by decide)) dX12_readPipe_222 ?_
          refine lv_topi (fun x81 ex81 => ?_)
          have tx81 : x81.toInt = (u75.2.2.1 a14 2).toInt := congrArg Int32.toInt ex81
          have g82 : 0 ≤ x81.toInt ∧ x81.toInt ≤ 12 := by have g : okI (u75.2.1 a14) (2) (u75.2.2.1 a14 (2)) := (hu a14 m_a14).2.2.2 (2); rw [k_a14, ← (show x81 = u75.2.2.1 a14 (2) from ex81)] at g; have g : okW (2) x81 := g; unfold okW at g; (try simp only [i_lt, i_le, i_eq, Int32.toInt_toInt64, Int32.reduceToInt, Int64.reduceToInt, true_and, and_true, false_and, and_false, false_or, or_false, true_or, or_true, not_true_eq_false, not_false_eq_true, ne_eq, forall_const, true_implies, false_implies, implies_true] at g_v1 ex0 ex1 tx1 w5 hr2 gr2 w7 tx8 w12 hr9 gr9 w14 tx15 er16 har16 w52 w54 tx55 er56 har56 w70 w74 hr71 gr71 w76 eb80 fb80 tx81 g ⊢) <;> omega
          refine lv_iconst (v := 1) hx hb dX12_readPipe_223 (by decide) ?_
          refine lv_iadd hx hb dX12_readPipe_224 ?_
          refine lv_topi (fun x83 ex83 => ?_)
          have tx83 : x83.toInt = x81.toInt + (1 : Int32).toInt := by rw [ex83]; exact i_add (by (try simp only [i_lt, i_le, i_eq, Int32.toInt_toInt64, Int32.reduceToInt, Int64.reduceToInt, true_and, and_true, false_and, and_false, false_or, or_false, true_or, or_true, not_true_eq_false, not_false_eq_true, ne_eq, forall_const, true_implies, false_implies, implies_true] at g_v1 ex0 ex1 tx1 w5 hr2 gr2 w7 tx8 w12 hr9 gr9 w14 tx15 er16 har16 w52 w54 tx55 er56 har56 w70 w74 hr71 gr71 w76 eb80 fb80 tx81 g82 ⊢) <;> omega) (by (try simp only [i_lt, i_le, i_eq, Int32.toInt_toInt64, Int32.reduceToInt, Int64.reduceToInt, true_and, and_true, false_and, and_false, false_or, or_false, true_or, or_true, not_true_eq_false, not_false_eq_true, ne_eq, forall_const, true_implies, false_implies, implies_true] at g_v1 ex0 ex1 tx1 w5 hr2 gr2 w7 tx8 w12 hr9 gr9 w14 tx15 er16 har16 w52 w54 tx55 er56 har56 w70 w74 hr71 gr71 w76 eb80 fb80 tx81 g82 ⊢) <;> omega)
          refine pasI (u' := pSI u75 a14 2 x83) hx hb hK hP hD hS m_a14 (cF51 k_a14) 1 rfl (vp_in_iff.mpr (by decide)) rfl (sF51 k_a14 _ _) dX12_readPipe_225 (fun H locs hP hD hS => ?_)
          have hu := WT.setI (a := a14) (s := 2) (v := x83) hu (by rw [k_a14]; exact (show okW 2 x83 from by unfold okW; (try simp only [i_lt, i_le, i_eq, Int32.toInt_toInt64, Int32.reduceToInt, Int64.reduceToInt, true_and, and_true, false_and, and_false, false_or, or_false, true_or, or_true, not_true_eq_false, not_false_eq_true, ne_eq, forall_const, true_implies, false_implies, implies_true] at g_v1 ex0 ex1 tx1 w5 hr2 gr2 w7 tx8 w12 hr9 gr9 w14 tx15 er16 har16 w52 w54 tx55 er56 har56 w70 w74 hr71 gr71 w76 eb80 fb80 tx81 g82 tx83 ⊢) <;> omega))
          have hkl := KL.setF (a := a14) (s := 2) (v := x83) hkl (by (try simp only [i_lt, i_le, i_eq, Int32.toInt_toInt64, Int32.reduceToInt, Int64.reduceToInt, true_and, and_true, false_and, and_false, false_or, or_false, true_or, or_true, not_true_eq_false, not_false_eq_true, ne_eq, forall_const, true_implies, false_implies, implies_true] at g_v1 ex0 ex1 tx1 w5 hr2 gr2 w7 tx8 w12 hr9 gr9 w14 tx15 er16 har16 w52 w54 tx55 er56 har56 w70 w74 hr71 gr71 w76 eb80 fb80 tx81 g82 tx83 ⊢) <;> omega)
          have hp := PX.setI (a := a14) (s := 2) (v := x83) hp (by rw [k_a14]; decide)
          obtain ⟨u84, hu84⟩ : ∃ z, z = pSI u75 a14 2 x83 := ⟨_, rfl⟩
          rw [← hu84] at hP hD hu hp hkl
          have w85 : (u84.2.2.1 a14 2).toInt = x83.toInt := by rw [hu84]; exact congrArg Int32.toInt (if_pos ⟨rfl, rfl⟩)
          exact W.vret hx hb hr (fun t ht hW => ⟨⟨u84, rfl, ⟨hu, hp, hkl, trivial⟩, by rw [ht]; exact hP, hD⟩, hS.F ht⟩) hS.2.2 dX12_readPipe_226
  have B98 : ∀ (u : PSt) (H : Heap) (locs : List Loc) (ls : Array Slot) (v1 : Int32), WT u → PX u0 u → KL u0 u → va_P D vwCl (PW k u) H → va_D A (PW k u) → va_S A s.heap H locs → 26 ≤ v1.toInt ∧ v1.toInt ≤ 290 → (v1.toInt % 24 = 2) → ((u.2.2.1 a14 2).toInt ≤ 11) → lv_has ls 4 [(0, .ref h0), (1, .int v1)] → W p l e (headSpec wsX12_readPipe ({ frames := 8, cells := 0, slots := 0, locals := 174 })).room s m ([.ref h0] : List Value).toArray below meth c H locs 0 0 (MQ below (va_Qv (fun v => WT v ∧ PX u0 v ∧ KL u0 v ∧ (True)) (WB D A (PW k)) A) ([.ref h0] : List Value).toArray s 0 0 A) (F0 m 98 ls []) := by
    intro u H locs ls v1 hu hp hkl hP hD hS g_v1 ex0 ex1 hl
    refine lv_aload_n hx hb dX12_readPipe_98 rfl (lv_at hl 0 rfl) ?_
    refine va_ldcS (own := RX12) (tx := "bellows") (q := tt.1 53) hx hb hown (hE.2.1 (RX12, 205, "bellows", 53) (by decide +kernel)) dX12_readPipe_99 ?_
    have k_h0 : u.2.1 h0 = 12 := (hp h0 m0_h0).2.1.trans k0_h0
    have m_h0 : h0 ∈ u.1 := (hp h0 m0_h0).1
    have k_a14 : u.2.1 a14 = 51 := (hp a14 m0_a14).2.1.trans k0_a14
    have m_a14 : a14 ∈ u.1 := (hp a14 m0_a14).1
    refine xiV (C := RX12) (As := [.ref (tt.1 53)]) (rest := []) ⟨hx, hb, hml, hown, hts⟩ (fun sz => t_X12_is l D k tt u hu h0 m_h0 k_h0 53 (by decide) sz) (cwV 1 hts gX12_readPipe_X12_is rfl rfl rfl (by decide +kernel) ⟨Nat.le_of_ble_eq_true rfl, Nat.le_of_ble_eq_true rfl⟩) hP hK hD hN hE hS hA (precv hK hP m_h0 (cF12 k_h0) rfl) rfl hl.1 rfl (Nat.le_of_ble_eq_true rfl) dX12_readPipe_101 ⟨Nat.le_of_ble_eq_true rfl, Nat.le_of_ble_eq_true rfl⟩ (fun r86 u87 H locs hqu87 hP hD hS => ?_)
    obtain ⟨hu, hxu87, hr86⟩ := hqu87
    have sameu87 : u = u87 := hr86.1.symm
    subst sameu87
    have hr86 := hr86.2
    rcases hr86 with ⟨er86, hnr86⟩ | ⟨er86, hir86, har86⟩
    · refine lv_if_eq (tgt := 120) hx hb dX12_readPipe_104 (by decide) (fun _ => ?_) (fun h => absurd (by (try simp only [i_lt, i_le, i_eq, Int32.toInt_toInt64, Int32.reduceToInt, Int64.reduceToInt, true_and, and_true, false_and, and_false, false_or, or_false, true_or, or_true, not_true_eq_false, not_false_eq_true, ne_eq, forall_const, true_implies, false_implies, implies_true] at g_v1 ex0 ex1 er86 ⊢) <;> omega) h)
      exact B120 _ _ _ ls v1 hu hp hkl hP hD hS (by (try simp only [i_lt, i_le, i_eq, Int32.toInt_toInt64, Int32.reduceToInt, Int64.reduceToInt, true_and, and_true, false_and, and_false, false_or, or_false, true_or, or_true, not_true_eq_false, not_false_eq_true, ne_eq, forall_const, true_implies, false_implies, implies_true] at g_v1 ex0 ex1 er86 ⊢) <;> omega) (by (try simp only [i_lt, i_le, i_eq, Int32.toInt_toInt64, Int32.reduceToInt, Int64.reduceToInt, true_and, and_true, false_and, and_false, false_or, or_false, true_or, or_true, not_true_eq_false, not_false_eq_true, ne_eq, forall_const, true_implies, false_implies, implies_true] at g_v1 ex0 ex1 er86 ⊢) <;> omega) (by (try simp only [i_lt, i_le, i_eq, Int32.toInt_toInt64, Int32.reduceToInt, Int64.reduceToInt, true_and, and_true, false_and, and_false, false_or, or_false, true_or, or_true, not_true_eq_false, not_false_eq_true, ne_eq, forall_const, true_implies, false_implies, implies_true] at g_v1 ex0 ex1 er86 ⊢) <;> omega) (lv_sub hl [0, 1] rfl)
    · refine lv_if_eq (tgt := 120) hx hb dX12_readPipe_104 (by decide) (fun h => absurd h (by (try simp only [i_lt, i_le, i_eq, Int32.toInt_toInt64, Int32.reduceToInt, Int64.reduceToInt, true_and, and_true, false_and, and_false, false_or, or_false, true_or, or_true, not_true_eq_false, not_false_eq_true, ne_eq, forall_const, true_implies, false_implies, implies_true] at g_v1 ex0 ex1 er86 har86 ⊢) <;> omega)) (fun _ => ?_)
      refine lv_aload_n hx hb dX12_readPipe_107 rfl (lv_at hl 0 rfl) ?_
      refine lv_iload_n hx hb dX12_readPipe_108 rfl (lv_at hl 1 rfl) ?_
      refine rvi (C := RX12) (As := [.int v1]) (rest := []) ⟨hx, hb, hml, hown, hts⟩ (t_X12_comesThere l D k u hu h0 m_h0 k_h0 v1 (by (try simp only [i_lt, i_le, i_eq, Int32.toInt_toInt64, Int32.reduceToInt, Int64.reduceToInt, true_and, and_true, false_and, and_false, false_or, or_false, true_or, or_true, not_true_eq_false, not_false_eq_true, ne_eq, forall_const, true_implies, false_implies, implies_true] at g_v1 ex0 ex1 er86 har86 ⊢) <;> omega) (by (try simp only [i_lt, i_le, i_eq, Int32.toInt_toInt64, Int32.reduceToInt, Int64.reduceToInt, true_and, and_true, false_and, and_false, false_or, or_false, true_or, or_true, not_true_eq_false, not_false_eq_true, ne_eq, forall_const, true_implies, false_implies, implies_true] at g_v1 ex0 ex1 er86 har86 ⊢) <;> omega)) (cwV 1 hts gX12_readPipe_X12_comesThere rfl rfl rfl (by decide +kernel) ⟨Nat.le_of_ble_eq_true rfl, Nat.le_of_ble_eq_true rfl⟩) hP hK (precv hK hP m_h0 (cF12 k_h0) rfl) rfl hl.1 rfl (Nat.le_of_ble_eq_true rfl) dX12_readPipe_109 ⟨Nat.le_of_ble_eq_true rfl, Nat.le_of_ble_eq_true rfl⟩ (fun r88 hr88 => ?_)
      refine lv_if_ne (tgt := 120) hx hb dX12_readPipe_112 (by decide) (fun c89 => ?_) (fun c89 => ?_)
      · exact B120 _ _ _ ls v1 hu hp hkl hP hD hS (by (try simp only [i_lt, i_le, i_eq, Int32.toInt_toInt64, Int32.reduceToInt, Int64.reduceToInt, true_and, and_true, false_and, and_false, false_or, or_false, true_or, or_true, not_true_eq_false, not_false_eq_true, ne_eq, forall_const, true_implies, false_implies, implies_true] at g_v1 ex0 ex1 er86 har86 hr88 c89 ⊢) <;> omega) (by (try simp only [i_lt, i_le, i_eq, Int32.toInt_toInt64, Int32.reduceToInt, Int64.reduceToInt, true_and, and_true, false_and, and_false, false_or, or_false, true_or, or_true, not_true_eq_false, not_false_eq_true, ne_eq, forall_const, true_implies, false_implies, implies_true] at g_v1 ex0 ex1 er86 har86 hr88 c89 ⊢) <;> omega) (by (try simp only [i_lt, i_le, i_eq, Int32.toInt_toInt64, Int32.reduceToInt, Int64.reduceToInt, true_and, and_true, false_and, and_false, false_or, or_false, true_or, or_true, not_true_eq_false, not_false_eq_true, ne_eq, forall_const, true_implies, false_implies, implies_true] at g_v1 ex0 ex1 er86 har86 hr88 c89 ⊢) <;> omega) (lv_sub hl [0, 1] rfl)
      · refine lv_aload_n hx hb dX12_readPipe_115 rfl (lv_at hl 0 rfl) ?_
        refine lv_iconst (v := 2) hx hb dX12_readPipe_116 (by decide) ?_
        refine wvV (C := RX12) (As := [.int 2]) (rest := []) ⟨hx, hb, hml, hown, hts⟩ (fun sz => t_X12_errs l D k u hu h0 m_h0 k_h0 2 (by decide) sz) (cwV 1 hts gX12_readPipe_X12_errs rfl rfl rfl (by decide +kernel) ⟨Nat.le_of_ble_eq_true rfl, Nat.le_of_ble_eq_true rfl⟩) hP hK hD hN hS hA (precv hK hP m_h0 (cF12 k_h0) rfl) rfl hl.1 rfl (Nat.le_of_ble_eq_true rfl) dX12_readPipe_117 ⟨Nat.le_of_ble_eq_true rfl, Nat.le_of_ble_eq_true rfl⟩ (fun u91 H locs hqu91 hP hD hS => ?_)
        obtain ⟨hu, hxu91, z92, hr90⟩ := hqu91
        have hkl := KL.trans hkl hp z92.toL
        have hp := PX.trans hp hxu91
        have w93 : (u91.2.2.1 a14 2).toInt = (u.2.2.1 a14 2).toInt := congrArg Int32.toInt (z92 a14 m_a14 k_a14 2)
        exact B120 _ _ _ ls v1 hu hp hkl hP hD hS (by (try simp only [i_lt, i_le, i_eq, Int32.toInt_toInt64, Int32.reduceToInt, Int64.reduceToInt, true_and, and_true, false_and, and_false, false_or, or_false, true_or, or_true, not_true_eq_false, not_false_eq_true, ne_eq, forall_const, true_implies, false_implies, implies_true] at g_v1 ex0 ex1 er86 har86 hr88 c89 w93 hr90 ⊢) <;> omega) (by (try simp only [i_lt, i_le, i_eq, Int32.toInt_toInt64, Int32.reduceToInt, Int64.reduceToInt, true_and, and_true, false_and, and_false, false_or, or_false, true_or, or_true, not_true_eq_false, not_false_eq_true, ne_eq, forall_const, true_implies, false_implies, implies_true] at g_v1 ex0 ex1 er86 har86 hr88 c89 w93 hr90 ⊢) <;> omega) (by (try simp only [i_lt, i_le, i_eq, Int32.toInt_toInt64, Int32.reduceToInt, Int64.reduceToInt, true_and, and_true, false_and, and_false, false_or, or_false, true_or, or_true, not_true_eq_false, not_false_eq_true, ne_eq, forall_const, true_implies, false_implies, implies_true] at g_v1 ex0 ex1 er86 har86 hr88 c89 w93 hr90 ⊢) <;> omega) (lv_sub hl [0, 1] rfl)
  have hl := lv_entry ([.ref h0]) (n := 4) (Nat.le_of_ble_eq_true rfl)
  rw [lg_entry_eq]
  generalize (lg_sl ([.ref h0]) ++ List.replicate (4 - (lg_sl ([.ref h0])).length) Slot.unset).toArray = ls at hl ⊢
  have hl : lv_has ls 4 [(0, .ref h0)] := hl
  refine lv_bipush (v := 26) hx hb dX12_readPipe_0 (by decide) ?_
  refine lv_bipush (v := 24) hx hb dX12_readPipe_2 (by decide) ?_
  refine lv_aload_n hx hb dX12_readPipe_4 rfl (lv_at hl 0 rfl) ?_
  refine pget (ci := 12) (v := va_rf (u0.2.2.2.2 h0 14)) (C := RX12) (T := TX12) (N := 34) hx hb hts i_X12 hown hK hP m_h0 (cF12 k_h0) rfl 14 (by decide) (hts (.fieldLink RX12 34 "BellowsRowModel" "fresh" "[I") (by decide +kernel)) (fun _ h9 => h9) rfl dX12_readPipe_5 ?_
  refine W.eq (g2 := F0 m 8 ls [.ref a14, .int 24, .int 26]) (by rw [(((hp h0 m0_h0).2.2.2.2.2.1 k0_h0 14).trans q0_14)]; rfl) ?_
  refine lv_iconst (v := 2) hx hb dX12_readPipe_8 (by decide) ?_
  refine palI hx hb hK hP m_a14 (cF51 k_a14) 1 rfl (vp_in_iff.mpr (by decide)) dX12_readPipe_9 ?_
  refine lv_topi (fun x94 ex94 => ?_)
  have tx94 : x94.toInt = (u0.2.2.1 a14 2).toInt := congrArg Int32.toInt ex94
  have g95 : 0 ≤ x94.toInt ∧ x94.toInt ≤ 12 := by have g : okI (u0.2.1 a14) (2) (u0.2.2.1 a14 (2)) := (hu a14 m_a14).2.2.2 (2); rw [k_a14, ← (show x94 = u0.2.2.1 a14 (2) from ex94)] at g; have g : okW (2) x94 := g; unfold okW at g; (try simp only [i_lt, i_le, i_eq, Int32.toInt_toInt64, Int32.reduceToInt, Int64.reduceToInt, true_and, and_true, false_and, and_false, false_or, or_false, true_or, or_true, not_true_eq_false, not_false_eq_true, ne_eq, forall_const, true_implies, false_implies, implies_true] at hpre tx94 g ⊢) <;> omega
  refine lv_imul hx hb dX12_readPipe_10 ?_
  refine lv_topi (fun x96 ex96 => ?_)
  have tx96 : x96.toInt = 24 * x94.toInt := by rw [ex96]; exact i_mulc (c := 24) (by decide) ((show 0 ≤ x94.toInt ∧ x94.toInt ≤ 12 from by (try simp only [i_lt, i_le, i_eq, Int32.toInt_toInt64, Int32.reduceToInt, Int64.reduceToInt, true_and, and_true, false_and, and_false, false_or, or_false, true_or, or_true, not_true_eq_false, not_false_eq_true, ne_eq, forall_const, true_implies, false_implies, implies_true] at hpre tx94 g95 ⊢) <;> omega)) (by decide)
  refine lv_iadd hx hb dX12_readPipe_11 ?_
  refine lv_topi (fun x97 ex97 => ?_)
  have tx97 : x97.toInt = (26 : Int32).toInt + x96.toInt := by rw [ex97]; exact i_add (by (try simp only [i_lt, i_le, i_eq, Int32.toInt_toInt64, Int32.reduceToInt, Int64.reduceToInt, true_and, and_true, false_and, and_false, false_or, or_false, true_or, or_true, not_true_eq_false, not_false_eq_true, ne_eq, forall_const, true_implies, false_implies, implies_true] at hpre tx94 g95 tx96 ⊢) <;> omega) (by (try simp only [i_lt, i_le, i_eq, Int32.toInt_toInt64, Int32.reduceToInt, Int64.reduceToInt, true_and, and_true, false_and, and_false, false_or, or_false, true_or, or_true, not_true_eq_false, not_false_eq_true, ne_eq, forall_const, true_implies, false_implies, implies_true] at hpre tx94 g95 tx96 ⊢) <;> omega)
  refine lv_istore_n (lv' := [(1, .int x97), (0, .ref h0)]) hx hb dX12_readPipe_12 rfl hl (by decide) rfl (fun ls hl => ?_)
  refine lv_aload_n hx hb dX12_readPipe_13 rfl (lv_at hl 1 rfl) ?_
  refine lv_iconst (v := 0) hx hb dX12_readPipe_14 (by decide) ?_
  refine lv_aload_n hx hb dX12_readPipe_15 rfl (lv_at hl 1 rfl) ?_
  refine pget (ci := 12) (v := va_rf (u0.2.2.2.2 h0 14)) (C := RX12) (T := TX12) (N := 34) hx hb hts i_X12 hown hK hP m_h0 (cF12 k_h0) rfl 14 (by decide) (hts (.fieldLink RX12 34 "BellowsRowModel" "fresh" "[I") (by decide +kernel)) (fun _ h9 => h9) rfl dX12_readPipe_16 ?_
  refine W.eq (g2 := F0 m 19 ls [.ref a14, .int 0, .ref h0]) (by rw [(((hp h0 m0_h0).2.2.2.2.2.1 k0_h0 14).trans q0_14)]; rfl) ?_
  refine lv_iconst (v := 1) hx hb dX12_readPipe_19 (by decide) ?_
  refine palI hx hb hK hP m_a14 (cF51 k_a14) 1 rfl (vp_in_iff.mpr (by decide)) dX12_readPipe_20 ?_
  refine lv_topi (fun x98 ex98 => ?_)
  have tx98 : x98.toInt = (u0.2.2.1 a14 1).toInt := congrArg Int32.toInt ex98
  have g99 : 0 ≤ x98.toInt ∧ x98.toInt ≤ 8 := by have g : okI (u0.2.1 a14) (1) (u0.2.2.1 a14 (1)) := (hu a14 m_a14).2.2.2 (1); rw [k_a14, ← (show x98 = u0.2.2.1 a14 (1) from ex98)] at g; have g : okW (1) x98 := g; unfold okW at g; (try simp only [i_lt, i_le, i_eq, Int32.toInt_toInt64, Int32.reduceToInt, Int64.reduceToInt, true_and, and_true, false_and, and_false, false_or, or_false, true_or, or_true, not_true_eq_false, not_false_eq_true, ne_eq, forall_const, true_implies, false_implies, implies_true] at hpre tx94 g95 tx96 tx97 tx98 g ⊢) <;> omega
  refine lv_iconst (v := 1) hx hb dX12_readPipe_21 (by decide) ?_
  refine lv_isub hx hb dX12_readPipe_22 ?_
  refine lv_topi (fun x100 ex100 => ?_)
  have tx100 : x100.toInt = x98.toInt - (1 : Int32).toInt := by rw [ex100]; exact i_sub (by (try simp only [i_lt, i_le, i_eq, Int32.toInt_toInt64, Int32.reduceToInt, Int64.reduceToInt, true_and, and_true, false_and, and_false, false_or, or_false, true_or, or_true, not_true_eq_false, not_false_eq_true, ne_eq, forall_const, true_implies, false_implies, implies_true] at hpre tx94 g95 tx96 tx97 tx98 g99 ⊢) <;> omega) (by (try simp only [i_lt, i_le, i_eq, Int32.toInt_toInt64, Int32.reduceToInt, Int64.reduceToInt, true_and, and_true, false_and, and_false, false_or, or_false, true_or, or_true, not_true_eq_false, not_false_eq_true, ne_eq, forall_const, true_implies, false_implies, implies_true] at hpre tx94 g95 tx96 tx97 tx98 g99 ⊢) <;> omega)
  refine wiV (C := RX12) (As := [.int 0, .int x100]) (rest := []) ⟨hx, hb, hml, hown, hts⟩ (fun sz => t_X12_number l D k u0 hu h0 m_h0 k_h0 0 x100 sz) (cwV 2 hts gX12_readPipe_X12_number rfl rfl rfl (by decide +kernel) ⟨Nat.le_of_ble_eq_true rfl, Nat.le_of_ble_eq_true rfl⟩) hP hK hD hN hS hA (precv hK hP m_h0 (cF12 k_h0) rfl) rfl hl.1 rfl (Nat.le_of_ble_eq_true rfl) dX12_readPipe_23 ⟨Nat.le_of_ble_eq_true rfl, Nat.le_of_ble_eq_true rfl⟩ (fun r101 u102 H locs hqu102 hP hD hS => ?_)
  obtain ⟨hu, hxu102, z103, hr101⟩ := hqu102
  have hkl := KL.trans hkl hp z103.toL
  have hp := PX.trans hp hxu102
  have w104 : (u102.2.2.1 a14 2).toInt = (u0.2.2.1 a14 2).toInt := congrArg Int32.toInt (z103 a14 m_a14 k_a14 2)
  have gr101 : 0 ≤ r101.toInt ∧ r101.toInt ≤ 7 := by (try simp only [i_lt, i_le, i_eq, Int32.toInt_toInt64, Int32.reduceToInt, Int64.reduceToInt, true_and, and_true, false_and, and_false, false_or, or_false, true_or, or_true, not_true_eq_false, not_false_eq_true, ne_eq, forall_const, true_implies, false_implies, implies_true] at hpre tx94 g95 tx96 tx97 tx98 g99 tx100 w104 hr101 ⊢) <;> omega
  refine lv_istore_n (lv' := [(2, .int r101), (1, .int x97), (0, .ref h0)]) hx hb dX12_readPipe_26 rfl hl (by decide) rfl (fun ls hl => ?_)
  refine lv_aload_n hx hb dX12_readPipe_27 rfl (lv_at hl 2 rfl) ?_
  refine va_ldcS (own := RX12) (tx := "to") (q := tt.1 50) hx hb hown (hE.2.1 (RX12, 196, "to", 50) (by decide +kernel)) dX12_readPipe_28 ?_
  refine lv_iload_n hx hb dX12_readPipe_30 rfl (lv_at hl 0 rfl) ?_
  refine lv_iconst (v := 1) hx hb dX12_readPipe_31 (by decide) ?_
  refine lv_iadd hx hb dX12_readPipe_32 ?_
  refine lv_topi (fun x105 ex105 => ?_)
  have tx105 : x105.toInt = r101.toInt + (1 : Int32).toInt := by rw [ex105]; exact i_add (by (try simp only [i_lt, i_le, i_eq, Int32.toInt_toInt64, Int32.reduceToInt, Int64.reduceToInt, true_and, and_true, false_and, and_false, false_or, or_false, true_or, or_true, not_true_eq_false, not_false_eq_true, ne_eq, forall_const, true_implies, false_implies, implies_true] at hpre tx94 g95 tx96 tx97 tx98 g99 tx100 w104 hr101 gr101 ⊢) <;> omega) (by (try simp only [i_lt, i_le, i_eq, Int32.toInt_toInt64, Int32.reduceToInt, Int64.reduceToInt, true_and, and_true, false_and, and_false, false_or, or_false, true_or, or_true, not_true_eq_false, not_false_eq_true, ne_eq, forall_const, true_implies, false_implies, implies_true] at hpre tx94 g95 tx96 tx97 tx98 g99 tx100 w104 hr101 gr101 ⊢) <;> omega)
  refine lv_aload_n hx hb dX12_readPipe_33 rfl (lv_at hl 2 rfl) ?_
  have k_h0 : u102.2.1 h0 = 12 := (hp h0 m0_h0).2.1.trans k0_h0
  have m_h0 : h0 ∈ u102.1 := (hp h0 m0_h0).1
  have k_a14 : u102.2.1 a14 = 51 := (hp a14 m0_a14).2.1.trans k0_a14
  have m_a14 : a14 ∈ u102.1 := (hp a14 m0_a14).1
  refine pget (ci := 12) (v := va_rf (u102.2.2.2.2 h0 14)) (C := RX12) (T := TX12) (N := 34) hx hb hts i_X12 hown hK hP m_h0 (cF12 k_h0) rfl 14 (by decide) (hts (.fieldLink RX12 34 "BellowsRowModel" "fresh" "[I") (by decide +kernel)) (fun _ h9 => h9) rfl dX12_readPipe_34 ?_
  refine W.eq (g2 := F0 m 37 ls [.ref a14, .int x105, .ref (tt.1 50), .ref h0]) (by rw [(((hp h0 m0_h0).2.2.2.2.2.1 k0_h0 14).trans q0_14)]; rfl) ?_
  refine lv_iconst (v := 1) hx hb dX12_readPipe_37 (by decide) ?_
  refine palI hx hb hK hP m_a14 (cF51 k_a14) 1 rfl (vp_in_iff.mpr (by decide)) dX12_readPipe_38 ?_
  refine lv_topi (fun x106 ex106 => ?_)
  have tx106 : x106.toInt = (u102.2.2.1 a14 1).toInt := congrArg Int32.toInt ex106
  have g107 : 0 ≤ x106.toInt ∧ x106.toInt ≤ 8 := by have g : okI (u102.2.1 a14) (1) (u102.2.2.1 a14 (1)) := (hu a14 m_a14).2.2.2 (1); rw [k_a14, ← (show x106 = u102.2.2.1 a14 (1) from ex106)] at g; have g : okW (1) x106 := g; unfold okW at g; (try simp only [i_lt, i_le, i_eq, Int32.toInt_toInt64, Int32.reduceToInt, Int64.reduceToInt, true_and, and_true, false_and, and_false, false_or, or_false, true_or, or_true, not_true_eq_false, not_false_eq_true, ne_eq, forall_const, true_implies, false_implies, implies_true] at hpre tx94 g95 tx96 tx97 tx98 g99 tx100 w104 hr101 gr101 tx105 tx106 g ⊢) <;> omega
  refine lv_iconst (v := 1) hx hb dX12_readPipe_39 (by decide) ?_
  refine lv_isub hx hb dX12_readPipe_40 ?_
  refine lv_topi (fun x108 ex108 => ?_)
  have tx108 : x108.toInt = x106.toInt - (1 : Int32).toInt := by rw [ex108]; exact i_sub (by (try simp only [i_lt, i_le, i_eq, Int32.toInt_toInt64, Int32.reduceToInt, Int64.reduceToInt, true_and, and_true, false_and, and_false, false_or, or_false, true_or, or_true, not_true_eq_false, not_false_eq_true, ne_eq, forall_const, true_implies, false_implies, implies_true] at hpre tx94 g95 tx96 tx97 tx98 g99 tx100 w104 hr101 gr101 tx105 tx106 g107 ⊢) <;> omega) (by (try simp only [i_lt, i_le, i_eq, Int32.toInt_toInt64, Int32.reduceToInt, Int64.reduceToInt, true_and, and_true, false_and, and_false, false_or, or_false, true_or, or_true, not_true_eq_false, not_false_eq_true, ne_eq, forall_const, true_implies, false_implies, implies_true] at hpre tx94 g95 tx96 tx97 tx98 g99 tx100 w104 hr101 gr101 tx105 tx106 g107 ⊢) <;> omega)
  refine xiV (C := RX12) (As := [.ref (tt.1 50), .int x105, .int x108]) (rest := []) ⟨hx, hb, hml, hown, hts⟩ (fun sz => t_X12_told l D k tt u102 hu h0 m_h0 k_h0 50 (by decide) x105 x108 sz) (cwV 3 hts gX12_readPipe_X12_told rfl rfl rfl (by decide +kernel) ⟨Nat.le_of_ble_eq_true rfl, Nat.le_of_ble_eq_true rfl⟩) hP hK hD hN hE hS hA (precv hK hP m_h0 (cF12 k_h0) rfl) rfl hl.1 rfl (Nat.le_of_ble_eq_true rfl) dX12_readPipe_41 ⟨Nat.le_of_ble_eq_true rfl, Nat.le_of_ble_eq_true rfl⟩ (fun r109 u110 H locs hqu110 hP hD hS => ?_)
  obtain ⟨hu, hxu110, z111, hr109⟩ := hqu110
  have hkl := KL.trans hkl hp z111.toL
  have hp := PX.trans hp hxu110
  have w112 : (u110.2.2.1 a14 2).toInt = (u102.2.2.1 a14 2).toInt := congrArg Int32.toInt (z111 a14 m_a14 k_a14 2)
  have gr109 : 0 ≤ r109.toInt ∧ r109.toInt ≤ 7 := by (try simp only [i_lt, i_le, i_eq, Int32.toInt_toInt64, Int32.reduceToInt, Int64.reduceToInt, true_and, and_true, false_and, and_false, false_or, or_false, true_or, or_true, not_true_eq_false, not_false_eq_true, ne_eq, forall_const, true_implies, false_implies, implies_true] at hpre tx94 g95 tx96 tx97 tx98 g99 tx100 w104 hr101 gr101 tx105 tx106 g107 tx108 w112 hr109 ⊢) <;> omega
  refine lv_istore_n (lv' := [(3, .int r109), (2, .int r101), (1, .int x97), (0, .ref h0)]) hx hb dX12_readPipe_44 rfl hl (by decide) rfl (fun ls hl => ?_)
  refine lv_aload_n hx hb dX12_readPipe_45 rfl (lv_at hl 3 rfl) ?_
  have k_h0 : u110.2.1 h0 = 12 := (hp h0 m0_h0).2.1.trans k0_h0
  have m_h0 : h0 ∈ u110.1 := (hp h0 m0_h0).1
  have k_a14 : u110.2.1 a14 = 51 := (hp a14 m0_a14).2.1.trans k0_a14
  have m_a14 : a14 ∈ u110.1 := (hp a14 m0_a14).1
  refine pget (ci := 12) (v := va_rf (u110.2.2.2.2 h0 14)) (C := RX12) (T := TX12) (N := 34) hx hb hts i_X12 hown hK hP m_h0 (cF12 k_h0) rfl 14 (by decide) (hts (.fieldLink RX12 34 "BellowsRowModel" "fresh" "[I") (by decide +kernel)) (fun _ h9 => h9) rfl dX12_readPipe_46 ?_
  refine W.eq (g2 := F0 m 49 ls [.ref a14]) (by rw [(((hp h0 m0_h0).2.2.2.2.2.1 k0_h0 14).trans q0_14)]; rfl) ?_
  refine lv_iload_n hx hb dX12_readPipe_49 rfl (lv_at hl 2 rfl) ?_
  refine lv_iconst (v := 0) hx hb dX12_readPipe_50 (by decide) ?_
  refine lv_iadd hx hb dX12_readPipe_51 ?_
  refine lv_topi (fun x113 ex113 => ?_)
  have tx113 : x113.toInt = x97.toInt + (0 : Int32).toInt := by rw [ex113]; exact i_add (by (try simp only [i_lt, i_le, i_eq, Int32.toInt_toInt64, Int32.reduceToInt, Int64.reduceToInt, true_and, and_true, false_and, and_false, false_or, or_false, true_or, or_true, not_true_eq_false, not_false_eq_true, ne_eq, forall_const, true_implies, false_implies, implies_true] at hpre tx94 g95 tx96 tx97 tx98 g99 tx100 w104 hr101 gr101 tx105 tx106 g107 tx108 w112 hr109 gr109 ⊢) <;> omega) (by (try simp only [i_lt, i_le, i_eq, Int32.toInt_toInt64, Int32.reduceToInt, Int64.reduceToInt, true_and, and_true, false_and, and_false, false_or, or_false, true_or, or_true, not_true_eq_false, not_false_eq_true, ne_eq, forall_const, true_implies, false_implies, implies_true] at hpre tx94 g95 tx96 tx97 tx98 g99 tx100 w104 hr101 gr101 tx105 tx106 g107 tx108 w112 hr109 gr109 ⊢) <;> omega)
  refine lv_iload_n hx hb dX12_readPipe_52 rfl (lv_at hl 1 rfl) ?_
  refine pasI (u' := pSI u110 a14 (x113.toNatClampNeg) r101) hx hb hK hP hD hS m_a14 (cF51 k_a14) 1 rfl (vp_in_iff.mpr (by (try simp only [i_lt, i_le, i_eq, Int32.toInt_toInt64, Int32.reduceToInt, Int64.reduceToInt, true_and, and_true, false_and, and_false, false_or, or_false, true_or, or_true, not_true_eq_false, not_false_eq_true, ne_eq, forall_const, true_implies, false_implies, implies_true] at hpre tx94 g95 tx96 tx97 tx98 g99 tx100 w104 hr101 gr101 tx105 tx106 g107 tx108 w112 hr109 gr109 tx113 ⊢) <;> omega)) rfl (sF51 k_a14 _ _) dX12_readPipe_53 (fun H locs hP hD hS => ?_)
  have hu := WT.setI (a := a14) (s := (x113.toNatClampNeg)) (v := r101) hu (by rw [k_a14]; exact (show okW (x113.toNatClampNeg) r101 from by unfold okW; have z := cl_int (x := x113) (by (try simp only [i_lt, i_le, i_eq, Int32.toInt_toInt64, Int32.reduceToInt, Int64.reduceToInt, true_and, and_true, false_and, and_false, false_or, or_false, true_or, or_true, not_true_eq_false, not_false_eq_true, ne_eq, forall_const, true_implies, false_implies, implies_true] at hpre tx94 g95 tx96 tx97 tx98 g99 tx100 w104 hr101 gr101 tx105 tx106 g107 tx108 w112 hr109 gr109 tx113 ⊢) <;> omega); (try simp only [i_lt, i_le, i_eq, Int32.toInt_toInt64, Int32.reduceToInt, Int64.reduceToInt, true_and, and_true, false_and, and_false, false_or, or_false, true_or, or_true, not_true_eq_false, not_false_eq_true, ne_eq, forall_const, true_implies, false_implies, implies_true] at hpre tx94 g95 tx96 tx97 tx98 g99 tx100 w104 hr101 gr101 tx105 tx106 g107 tx108 w112 hr109 gr109 tx113 z ⊢) <;> omega))
  have hkl := KL.setF (a := a14) (s := (x113.toNatClampNeg)) (v := r101) hkl (by have z := cl_int (x := x113) (by (try simp only [i_lt, i_le, i_eq, Int32.toInt_toInt64, Int32.reduceToInt, Int64.reduceToInt, true_and, and_true, false_and, and_false, false_or, or_false, true_or, or_true, not_true_eq_false, not_false_eq_true, ne_eq, forall_const, true_implies, false_implies, implies_true] at hpre tx94 g95 tx96 tx97 tx98 g99 tx100 w104 hr101 gr101 tx105 tx106 g107 tx108 w112 hr109 gr109 tx113 ⊢) <;> omega); (try simp only [i_lt, i_le, i_eq, Int32.toInt_toInt64, Int32.reduceToInt, Int64.reduceToInt, true_and, and_true, false_and, and_false, false_or, or_false, true_or, or_true, not_true_eq_false, not_false_eq_true, ne_eq, forall_const, true_implies, false_implies, implies_true] at hpre tx94 g95 tx96 tx97 tx98 g99 tx100 w104 hr101 gr101 tx105 tx106 g107 tx108 w112 hr109 gr109 tx113 z ⊢) <;> omega)
  have hp := PX.setI (a := a14) (s := (x113.toNatClampNeg)) (v := r101) hp (by rw [k_a14]; decide)
  obtain ⟨u114, hu114⟩ : ∃ z, z = pSI u110 a14 (x113.toNatClampNeg) r101 := ⟨_, rfl⟩
  rw [← hu114] at hP hD hu hp hkl
  have w115 : (u114.2.2.1 a14 2).toInt = (u110.2.2.1 a14 2).toInt := by rw [hu114]; exact congrArg Int32.toInt (if_neg (fun q => by have y := q.2; have z := cl_int (x := x113) (by (try simp only [i_lt, i_le, i_eq, Int32.toInt_toInt64, Int32.reduceToInt, Int64.reduceToInt, true_and, and_true, false_and, and_false, false_or, or_false, true_or, or_true, not_true_eq_false, not_false_eq_true, ne_eq, forall_const, true_implies, false_implies, implies_true] at hpre tx94 g95 tx96 tx97 tx98 g99 tx100 w104 hr101 gr101 tx105 tx106 g107 tx108 w112 hr109 gr109 tx113 ⊢) <;> omega); (try simp only [i_lt, i_le, i_eq, Int32.toInt_toInt64, Int32.reduceToInt, Int64.reduceToInt, true_and, and_true, false_and, and_false, false_or, or_false, true_or, or_true, not_true_eq_false, not_false_eq_true, ne_eq, forall_const, true_implies, false_implies, implies_true] at hpre tx94 g95 tx96 tx97 tx98 g99 tx100 w104 hr101 gr101 tx105 tx106 g107 tx108 w112 hr109 gr109 tx113 y z ⊢) <;> omega))
  refine lv_aload_n hx hb dX12_readPipe_54 rfl (lv_at hl 3 rfl) ?_
  have k_h0 : u114.2.1 h0 = 12 := (hp h0 m0_h0).2.1.trans k0_h0
  have m_h0 : h0 ∈ u114.1 := (hp h0 m0_h0).1
  have k_a14 : u114.2.1 a14 = 51 := (hp a14 m0_a14).2.1.trans k0_a14
  have m_a14 : a14 ∈ u114.1 := (hp a14 m0_a14).1
  refine pget (ci := 12) (v := va_rf (u114.2.2.2.2 h0 14)) (C := RX12) (T := TX12) (N := 34) hx hb hts i_X12 hown hK hP m_h0 (cF12 k_h0) rfl 14 (by decide) (hts (.fieldLink RX12 34 "BellowsRowModel" "fresh" "[I") (by decide +kernel)) (fun _ h9 => h9) rfl dX12_readPipe_55 ?_
  refine W.eq (g2 := F0 m 58 ls [.ref a14]) (by rw [(((hp h0 m0_h0).2.2.2.2.2.1 k0_h0 14).trans q0_14)]; rfl) ?_
  refine lv_iload_n hx hb dX12_readPipe_58 rfl (lv_at hl 2 rfl) ?_
  refine lv_iconst (v := 1) hx hb dX12_readPipe_59 (by decide) ?_
  refine lv_iadd hx hb dX12_readPipe_60 ?_
  refine lv_topi (fun x116 ex116 => ?_)
  have tx116 : x116.toInt = x97.toInt + (1 : Int32).toInt := by rw [ex116]; exact i_add (by (try simp only [i_lt, i_le, i_eq, Int32.toInt_toInt64, Int32.reduceToInt, Int64.reduceToInt, true_and, and_true, false_and, and_false, false_or, or_false, true_or, or_true, not_true_eq_false, not_false_eq_true, ne_eq, forall_const, true_implies, false_implies, implies_true] at hpre tx94 g95 tx96 tx97 tx98 g99 tx100 w104 hr101 gr101 tx105 tx106 g107 tx108 w112 hr109 gr109 tx113 w115 ⊢) <;> omega) (by (try simp only [i_lt, i_le, i_eq, Int32.toInt_toInt64, Int32.reduceToInt, Int64.reduceToInt, true_and, and_true, false_and, and_false, false_or, or_false, true_or, or_true, not_true_eq_false, not_false_eq_true, ne_eq, forall_const, true_implies, false_implies, implies_true] at hpre tx94 g95 tx96 tx97 tx98 g99 tx100 w104 hr101 gr101 tx105 tx106 g107 tx108 w112 hr109 gr109 tx113 w115 ⊢) <;> omega)
  refine lv_iload_n hx hb dX12_readPipe_61 rfl (lv_at hl 0 rfl) ?_
  refine pasI (u' := pSI u114 a14 (x116.toNatClampNeg) r109) hx hb hK hP hD hS m_a14 (cF51 k_a14) 1 rfl (vp_in_iff.mpr (by (try simp only [i_lt, i_le, i_eq, Int32.toInt_toInt64, Int32.reduceToInt, Int64.reduceToInt, true_and, and_true, false_and, and_false, false_or, or_false, true_or, or_true, not_true_eq_false, not_false_eq_true, ne_eq, forall_const, true_implies, false_implies, implies_true] at hpre tx94 g95 tx96 tx97 tx98 g99 tx100 w104 hr101 gr101 tx105 tx106 g107 tx108 w112 hr109 gr109 tx113 w115 tx116 ⊢) <;> omega)) rfl (sF51 k_a14 _ _) dX12_readPipe_62 (fun H locs hP hD hS => ?_)
  have hu := WT.setI (a := a14) (s := (x116.toNatClampNeg)) (v := r109) hu (by rw [k_a14]; exact (show okW (x116.toNatClampNeg) r109 from by unfold okW; have z := cl_int (x := x116) (by (try simp only [i_lt, i_le, i_eq, Int32.toInt_toInt64, Int32.reduceToInt, Int64.reduceToInt, true_and, and_true, false_and, and_false, false_or, or_false, true_or, or_true, not_true_eq_false, not_false_eq_true, ne_eq, forall_const, true_implies, false_implies, implies_true] at hpre tx94 g95 tx96 tx97 tx98 g99 tx100 w104 hr101 gr101 tx105 tx106 g107 tx108 w112 hr109 gr109 tx113 w115 tx116 ⊢) <;> omega); (try simp only [i_lt, i_le, i_eq, Int32.toInt_toInt64, Int32.reduceToInt, Int64.reduceToInt, true_and, and_true, false_and, and_false, false_or, or_false, true_or, or_true, not_true_eq_false, not_false_eq_true, ne_eq, forall_const, true_implies, false_implies, implies_true] at hpre tx94 g95 tx96 tx97 tx98 g99 tx100 w104 hr101 gr101 tx105 tx106 g107 tx108 w112 hr109 gr109 tx113 w115 tx116 z ⊢) <;> omega))
  have hkl := KL.setF (a := a14) (s := (x116.toNatClampNeg)) (v := r109) hkl (by have z := cl_int (x := x116) (by (try simp only [i_lt, i_le, i_eq, Int32.toInt_toInt64, Int32.reduceToInt, Int64.reduceToInt, true_and, and_true, false_and, and_false, false_or, or_false, true_or, or_true, not_true_eq_false, not_false_eq_true, ne_eq, forall_const, true_implies, false_implies, implies_true] at hpre tx94 g95 tx96 tx97 tx98 g99 tx100 w104 hr101 gr101 tx105 tx106 g107 tx108 w112 hr109 gr109 tx113 w115 tx116 ⊢) <;> omega); (try simp only [i_lt, i_le, i_eq, Int32.toInt_toInt64, Int32.reduceToInt, Int64.reduceToInt, true_and, and_true, false_and, and_false, false_or, or_false, true_or, or_true, not_true_eq_false, not_false_eq_true, ne_eq, forall_const, true_implies, false_implies, implies_true] at hpre tx94 g95 tx96 tx97 tx98 g99 tx100 w104 hr101 gr101 tx105 tx106 g107 tx108 w112 hr109 gr109 tx113 w115 tx116 z ⊢) <;> omega)
  have hp := PX.setI (a := a14) (s := (x116.toNatClampNeg)) (v := r109) hp (by rw [k_a14]; decide)
  obtain ⟨u117, hu117⟩ : ∃ z, z = pSI u114 a14 (x116.toNatClampNeg) r109 := ⟨_, rfl⟩
  rw [← hu117] at hP hD hu hp hkl
  have w118 : (u117.2.2.1 a14 2).toInt = (u114.2.2.1 a14 2).toInt := by rw [hu117]; exact congrArg Int32.toInt (if_neg (fun q => by have y := q.2; have z := cl_int (x := x116) (by (try simp only [i_lt, i_le, i_eq, Int32.toInt_toInt64, Int32.reduceToInt, Int64.reduceToInt, true_and, and_true, false_and, and_false, false_or, or_false, true_or, or_true, not_true_eq_false, not_false_eq_true, ne_eq, forall_const, true_implies, false_implies, implies_true] at hpre tx94 g95 tx96 tx97 tx98 g99 tx100 w104 hr101 gr101 tx105 tx106 g107 tx108 w112 hr109 gr109 tx113 w115 tx116 ⊢) <;> omega); (try simp only [i_lt, i_le, i_eq, Int32.toInt_toInt64, Int32.reduceToInt, Int64.reduceToInt, true_and, and_true, false_and, and_false, false_or, or_false, true_or, or_true, not_true_eq_false, not_false_eq_true, ne_eq, forall_const, true_implies, false_implies, implies_true] at hpre tx94 g95 tx96 tx97 tx98 g99 tx100 w104 hr101 gr101 tx105 tx106 g107 tx108 w112 hr109 gr109 tx113 w115 tx116 y z ⊢) <;> omega))
  refine lv_aload_n hx hb dX12_readPipe_63 rfl (lv_at hl 3 rfl) ?_
  have k_h0 : u117.2.1 h0 = 12 := (hp h0 m0_h0).2.1.trans k0_h0
  have m_h0 : h0 ∈ u117.1 := (hp h0 m0_h0).1
  have k_a14 : u117.2.1 a14 = 51 := (hp a14 m0_a14).2.1.trans k0_a14
  have m_a14 : a14 ∈ u117.1 := (hp a14 m0_a14).1
  refine pget (ci := 12) (v := va_rf (u117.2.2.2.2 h0 14)) (C := RX12) (T := TX12) (N := 34) hx hb hts i_X12 hown hK hP m_h0 (cF12 k_h0) rfl 14 (by decide) (hts (.fieldLink RX12 34 "BellowsRowModel" "fresh" "[I") (by decide +kernel)) (fun _ h9 => h9) rfl dX12_readPipe_64 ?_
  refine W.eq (g2 := F0 m 67 ls [.ref a14]) (by rw [(((hp h0 m0_h0).2.2.2.2.2.1 k0_h0 14).trans q0_14)]; rfl) ?_
  refine lv_iload_n hx hb dX12_readPipe_67 rfl (lv_at hl 2 rfl) ?_
  refine lv_iconst (v := 2) hx hb dX12_readPipe_68 (by decide) ?_
  refine lv_iadd hx hb dX12_readPipe_69 ?_
  refine lv_topi (fun x119 ex119 => ?_)
  have tx119 : x119.toInt = x97.toInt + (2 : Int32).toInt := by rw [ex119]; exact i_add (by (try simp only [i_lt, i_le, i_eq, Int32.toInt_toInt64, Int32.reduceToInt, Int64.reduceToInt, true_and, and_true, false_and, and_false, false_or, or_false, true_or, or_true, not_true_eq_false, not_false_eq_true, ne_eq, forall_const, true_implies, false_implies, implies_true] at hpre tx94 g95 tx96 tx97 tx98 g99 tx100 w104 hr101 gr101 tx105 tx106 g107 tx108 w112 hr109 gr109 tx113 w115 tx116 w118 ⊢) <;> omega) (by (try simp only [i_lt, i_le, i_eq, Int32.toInt_toInt64, Int32.reduceToInt, Int64.reduceToInt, true_and, and_true, false_and, and_false, false_or, or_false, true_or, or_true, not_true_eq_false, not_false_eq_true, ne_eq, forall_const, true_implies, false_implies, implies_true] at hpre tx94 g95 tx96 tx97 tx98 g99 tx100 w104 hr101 gr101 tx105 tx106 g107 tx108 w112 hr109 gr109 tx113 w115 tx116 w118 ⊢) <;> omega)
  refine lv_aload_n hx hb dX12_readPipe_70 rfl (lv_at hl 3 rfl) ?_
  refine va_ldcS (own := RX12) (tx := "bore") (q := tt.1 51) hx hb hown (hE.2.1 (RX12, 198, "bore", 51) (by decide +kernel)) dX12_readPipe_71 ?_
  refine lv_iconst (v := 1) hx hb dX12_readPipe_73 (by decide) ?_
  refine lv_bipush (v := 40) hx hb dX12_readPipe_74 (by decide) ?_
  refine xiV (C := RX12) (As := [.ref (tt.1 51), .int 1, .int 40]) (rest := [.int x119, .ref a14]) ⟨hx, hb, hml, hown, hts⟩ (fun sz => t_X12_told l D k tt u117 hu h0 m_h0 k_h0 51 (by decide) 1 40 sz) (cwV 3 hts gX12_readPipe_X12_told rfl rfl rfl (by decide +kernel) ⟨Nat.le_of_ble_eq_true rfl, Nat.le_of_ble_eq_true rfl⟩) hP hK hD hN hE hS hA (precv hK hP m_h0 (cF12 k_h0) rfl) rfl hl.1 rfl (Nat.le_of_ble_eq_true rfl) dX12_readPipe_76 ⟨Nat.le_of_ble_eq_true rfl, Nat.le_of_ble_eq_true rfl⟩ (fun r120 u121 H locs hqu121 hP hD hS => ?_)
  obtain ⟨hu, hxu121, z122, hr120⟩ := hqu121
  have hkl := KL.trans hkl hp z122.toL
  have hp := PX.trans hp hxu121
  have w123 : (u121.2.2.1 a14 2).toInt = (u117.2.2.1 a14 2).toInt := congrArg Int32.toInt (z122 a14 m_a14 k_a14 2)
  have gr120 : 0 ≤ r120.toInt ∧ r120.toInt ≤ 40 := by (try simp only [i_lt, i_le, i_eq, Int32.toInt_toInt64, Int32.reduceToInt, Int64.reduceToInt, true_and, and_true, false_and, and_false, false_or, or_false, true_or, or_true, not_true_eq_false, not_false_eq_true, ne_eq, forall_const, true_implies, false_implies, implies_true] at hpre tx94 g95 tx96 tx97 tx98 g99 tx100 w104 hr101 gr101 tx105 tx106 g107 tx108 w112 hr109 gr109 tx113 w115 tx116 w118 tx119 w123 hr120 ⊢) <;> omega
  have k_h0 : u121.2.1 h0 = 12 := (hp h0 m0_h0).2.1.trans k0_h0
  have m_h0 : h0 ∈ u121.1 := (hp h0 m0_h0).1
  have k_a14 : u121.2.1 a14 = 51 := (hp a14 m0_a14).2.1.trans k0_a14
  have m_a14 : a14 ∈ u121.1 := (hp a14 m0_a14).1
  refine pasI (u' := pSI u121 a14 (x119.toNatClampNeg) r120) hx hb hK hP hD hS m_a14 (cF51 k_a14) 1 rfl (vp_in_iff.mpr (by (try simp only [i_lt, i_le, i_eq, Int32.toInt_toInt64, Int32.reduceToInt, Int64.reduceToInt, true_and, and_true, false_and, and_false, false_or, or_false, true_or, or_true, not_true_eq_false, not_false_eq_true, ne_eq, forall_const, true_implies, false_implies, implies_true] at hpre tx94 g95 tx96 tx97 tx98 g99 tx100 w104 hr101 gr101 tx105 tx106 g107 tx108 w112 hr109 gr109 tx113 w115 tx116 w118 tx119 w123 hr120 gr120 ⊢) <;> omega)) rfl (sF51 k_a14 _ _) dX12_readPipe_79 (fun H locs hP hD hS => ?_)
  have hu := WT.setI (a := a14) (s := (x119.toNatClampNeg)) (v := r120) hu (by rw [k_a14]; exact (show okW (x119.toNatClampNeg) r120 from by unfold okW; have z := cl_int (x := x119) (by (try simp only [i_lt, i_le, i_eq, Int32.toInt_toInt64, Int32.reduceToInt, Int64.reduceToInt, true_and, and_true, false_and, and_false, false_or, or_false, true_or, or_true, not_true_eq_false, not_false_eq_true, ne_eq, forall_const, true_implies, false_implies, implies_true] at hpre tx94 g95 tx96 tx97 tx98 g99 tx100 w104 hr101 gr101 tx105 tx106 g107 tx108 w112 hr109 gr109 tx113 w115 tx116 w118 tx119 w123 hr120 gr120 ⊢) <;> omega); (try simp only [i_lt, i_le, i_eq, Int32.toInt_toInt64, Int32.reduceToInt, Int64.reduceToInt, true_and, and_true, false_and, and_false, false_or, or_false, true_or, or_true, not_true_eq_false, not_false_eq_true, ne_eq, forall_const, true_implies, false_implies, implies_true] at hpre tx94 g95 tx96 tx97 tx98 g99 tx100 w104 hr101 gr101 tx105 tx106 g107 tx108 w112 hr109 gr109 tx113 w115 tx116 w118 tx119 w123 hr120 gr120 z ⊢) <;> omega))
  have hkl := KL.setF (a := a14) (s := (x119.toNatClampNeg)) (v := r120) hkl (by have z := cl_int (x := x119) (by (try simp only [i_lt, i_le, i_eq, Int32.toInt_toInt64, Int32.reduceToInt, Int64.reduceToInt, true_and, and_true, false_and, and_false, false_or, or_false, true_or, or_true, not_true_eq_false, not_false_eq_true, ne_eq, forall_const, true_implies, false_implies, implies_true] at hpre tx94 g95 tx96 tx97 tx98 g99 tx100 w104 hr101 gr101 tx105 tx106 g107 tx108 w112 hr109 gr109 tx113 w115 tx116 w118 tx119 w123 hr120 gr120 ⊢) <;> omega); (try simp only [i_lt, i_le, i_eq, Int32.toInt_toInt64, Int32.reduceToInt, Int64.reduceToInt, true_and, and_true, false_and, and_false, false_or, or_false, true_or, or_true, not_true_eq_false, not_false_eq_true, ne_eq, forall_const, true_implies, false_implies, implies_true] at hpre tx94 g95 tx96 tx97 tx98 g99 tx100 w104 hr101 gr101 tx105 tx106 g107 tx108 w112 hr109 gr109 tx113 w115 tx116 w118 tx119 w123 hr120 gr120 z ⊢) <;> omega)
  have hp := PX.setI (a := a14) (s := (x119.toNatClampNeg)) (v := r120) hp (by rw [k_a14]; decide)
  obtain ⟨u124, hu124⟩ : ∃ z, z = pSI u121 a14 (x119.toNatClampNeg) r120 := ⟨_, rfl⟩
  rw [← hu124] at hP hD hu hp hkl
  have w125 : (u124.2.2.1 a14 2).toInt = (u121.2.2.1 a14 2).toInt := by rw [hu124]; exact congrArg Int32.toInt (if_neg (fun q => by have y := q.2; have z := cl_int (x := x119) (by (try simp only [i_lt, i_le, i_eq, Int32.toInt_toInt64, Int32.reduceToInt, Int64.reduceToInt, true_and, and_true, false_and, and_false, false_or, or_false, true_or, or_true, not_true_eq_false, not_false_eq_true, ne_eq, forall_const, true_implies, false_implies, implies_true] at hpre tx94 g95 tx96 tx97 tx98 g99 tx100 w104 hr101 gr101 tx105 tx106 g107 tx108 w112 hr109 gr109 tx113 w115 tx116 w118 tx119 w123 hr120 gr120 ⊢) <;> omega); (try simp only [i_lt, i_le, i_eq, Int32.toInt_toInt64, Int32.reduceToInt, Int64.reduceToInt, true_and, and_true, false_and, and_false, false_or, or_false, true_or, or_true, not_true_eq_false, not_false_eq_true, ne_eq, forall_const, true_implies, false_implies, implies_true] at hpre tx94 g95 tx96 tx97 tx98 g99 tx100 w104 hr101 gr101 tx105 tx106 g107 tx108 w112 hr109 gr109 tx113 w115 tx116 w118 tx119 w123 hr120 gr120 y z ⊢) <;> omega))
  refine lv_aload_n hx hb dX12_readPipe_80 rfl (lv_at hl 3 rfl) ?_
  refine va_ldcS (own := RX12) (tx := "by") (q := tt.1 52) hx hb hown (hE.2.1 (RX12, 200, "by", 52) (by decide +kernel)) dX12_readPipe_81 ?_
  have k_h0 : u124.2.1 h0 = 12 := (hp h0 m0_h0).2.1.trans k0_h0
  have m_h0 : h0 ∈ u124.1 := (hp h0 m0_h0).1
  have k_a14 : u124.2.1 a14 = 51 := (hp a14 m0_a14).2.1.trans k0_a14
  have m_a14 : a14 ∈ u124.1 := (hp a14 m0_a14).1
  refine xvV (C := RX12) (As := [.ref (tt.1 52)]) (rest := []) ⟨hx, hb, hml, hown, hts⟩ (fun sz => t_X12_needsWord l D k tt u124 hu h0 m_h0 k_h0 52 (by decide) sz) (cwV 1 hts gX12_readPipe_X12_needsWord rfl rfl rfl (by decide +kernel) ⟨Nat.le_of_ble_eq_true rfl, Nat.le_of_ble_eq_true rfl⟩) hP hK hD hN hE hS hA (precv hK hP m_h0 (cF12 k_h0) rfl) rfl hl.1 rfl (Nat.le_of_ble_eq_true rfl) dX12_readPipe_83 ⟨Nat.le_of_ble_eq_true rfl, Nat.le_of_ble_eq_true rfl⟩ (fun u127 H locs hqu127 hP hD hS => ?_)
  obtain ⟨hu, hxu127, z128, hr126⟩ := hqu127
  have hkl := KL.trans hkl hp z128.toL
  have hp := PX.trans hp hxu127
  have w129 : (u127.2.2.1 a14 2).toInt = (u124.2.2.1 a14 2).toInt := congrArg Int32.toInt (z128 a14 m_a14 k_a14 2)
  refine lv_aload_n hx hb dX12_readPipe_86 rfl (lv_at hl 3 rfl) ?_
  have k_h0 : u127.2.1 h0 = 12 := (hp h0 m0_h0).2.1.trans k0_h0
  have m_h0 : h0 ∈ u127.1 := (hp h0 m0_h0).1
  have k_a14 : u127.2.1 a14 = 51 := (hp a14 m0_a14).2.1.trans k0_a14
  have m_a14 : a14 ∈ u127.1 := (hp a14 m0_a14).1
  refine rvi (C := RX12) (As := []) (rest := []) ⟨hx, hb, hml, hown, hts⟩ (t_X12_good l D k u127 hu h0 m_h0 k_h0 ) (cwV 0 hts gX12_readPipe_X12_good rfl rfl rfl (by decide +kernel) ⟨Nat.le_of_ble_eq_true rfl, Nat.le_of_ble_eq_true rfl⟩) hP hK (precv hK hP m_h0 (cF12 k_h0) rfl) rfl hl.1 rfl (Nat.le_of_ble_eq_true rfl) dX12_readPipe_87 ⟨Nat.le_of_ble_eq_true rfl, Nat.le_of_ble_eq_true rfl⟩ (fun r130 hr130 => ?_)
  refine lv_if_eq (tgt := 98) hx hb dX12_readPipe_90 (by decide) (fun c131 => ?_) (fun c131 => ?_)
  · have eb132 : r130.toInt = 0 := by rcases hr130 with ⟨q, -⟩ | ⟨q, -⟩; exact q; (exact absurd (c131) (fun w => by rw [w] at q; exact absurd q (by decide)))
    have fb132 : (u127.2.2.1 h0 12).toInt ≠ 0 := by rcases hr130 with ⟨q, r⟩ | ⟨q, r⟩; exact r; exact absurd q (by omega)
    clear hr130
    exact B98 _ _ _ ls x97 hu hp hkl hP hD hS (by (try simp only [i_lt, i_le, i_eq, Int32.toInt_toInt64, Int32.reduceToInt, Int64.reduceToInt, true_and, and_true, false_and, and_false, false_or, or_false, true_or, or_true, not_true_eq_false, not_false_eq_true, ne_eq, forall_const, true_implies, false_implies, implies_true] at hpre tx94 g95 tx96 tx97 tx98 g99 tx100 w104 hr101 gr101 tx105 tx106 g107 tx108 w112 hr109 gr109 tx113 w115 tx116 w118 tx119 w123 hr120 gr120 w125 w129 hr126 eb132 fb132 ⊢) <;> omega) (by (try simp only [i_lt, i_le, i_eq, Int32.toInt_toInt64, Int32.reduceToInt, Int64.reduceToInt, true_and, and_true, false_and, and_false, false_or, or_false, true_or, or_true, not_true_eq_false, not_false_eq_true, ne_eq, forall_const, true_implies, false_implies, implies_true] at hpre tx94 g95 tx96 tx97 tx98 g99 tx100 w104 hr101 gr101 tx105 tx106 g107 tx108 w112 hr109 gr109 tx113 w115 tx116 w118 tx119 w123 hr120 gr120 w125 w129 hr126 eb132 fb132 ⊢) <;> omega) (by (try simp only [i_lt, i_le, i_eq, Int32.toInt_toInt64, Int32.reduceToInt, Int64.reduceToInt, true_and, and_true, false_and, and_false, false_or, or_false, true_or, or_true, not_true_eq_false, not_false_eq_true, ne_eq, forall_const, true_implies, false_implies, implies_true] at hpre tx94 g95 tx96 tx97 tx98 g99 tx100 w104 hr101 gr101 tx105 tx106 g107 tx108 w112 hr109 gr109 tx113 w115 tx116 w118 tx119 w123 hr120 gr120 w125 w129 hr126 eb132 fb132 ⊢) <;> omega) (lv_sub hl [3, 2] rfl)
  · have eb133 : r130.toInt = 1 := by rcases hr130 with ⟨q, -⟩ | ⟨q, -⟩; exact absurd (i_eq.mpr q) c131; exact q
    have fb133 : (u127.2.2.1 h0 12).toInt = 0 := by rcases hr130 with ⟨q, r⟩ | ⟨q, r⟩; exact absurd q (by omega); exact r
    clear hr130
    refine lv_aload_n hx hb dX12_readPipe_93 rfl (lv_at hl 3 rfl) ?_
    refine lv_iload_n hx hb dX12_readPipe_94 rfl (lv_at hl 2 rfl) ?_
    refine xvV (C := RX12) (As := [.int x97]) (rest := []) ⟨hx, hb, hml, hown, hts⟩ (fun sz => t_X12_readMoves l D k tt u127 hu h0 m_h0 k_h0 x97 (by (try simp only [i_lt, i_le, i_eq, Int32.toInt_toInt64, Int32.reduceToInt, Int64.reduceToInt, true_and, and_true, false_and, and_false, false_or, or_false, true_or, or_true, not_true_eq_false, not_false_eq_true, ne_eq, forall_const, true_implies, false_implies, implies_true] at hpre tx94 g95 tx96 tx97 tx98 g99 tx100 w104 hr101 gr101 tx105 tx106 g107 tx108 w112 hr109 gr109 tx113 w115 tx116 w118 tx119 w123 hr120 gr120 w125 w129 hr126 eb133 fb133 ⊢) <;> omega) (by (try simp only [i_lt, i_le, i_eq, Int32.toInt_toInt64, Int32.reduceToInt, Int64.reduceToInt, true_and, and_true, false_and, and_false, false_or, or_false, true_or, or_true, not_true_eq_false, not_false_eq_true, ne_eq, forall_const, true_implies, false_implies, implies_true] at hpre tx94 g95 tx96 tx97 tx98 g99 tx100 w104 hr101 gr101 tx105 tx106 g107 tx108 w112 hr109 gr109 tx113 w115 tx116 w118 tx119 w123 hr120 gr120 w125 w129 hr126 eb133 fb133 ⊢) <;> omega) sz) (cwV 1 hts gX12_readPipe_X12_readMoves rfl rfl rfl (by decide +kernel) ⟨Nat.le_of_ble_eq_true rfl, Nat.le_of_ble_eq_true rfl⟩) hP hK hD hN hE hS hA (precv hK hP m_h0 (cF12 k_h0) rfl) rfl hl.1 rfl (Nat.le_of_ble_eq_true rfl) dX12_readPipe_95 ⟨Nat.le_of_ble_eq_true rfl, Nat.le_of_ble_eq_true rfl⟩ (fun u135 H locs hqu135 hP hD hS => ?_)
    obtain ⟨hu, hxu135, z136, hr134⟩ := hqu135
    have hkl := KL.trans hkl hp z136.toL
    have hp := PX.trans hp hxu135
    have w137 : (u135.2.2.1 a14 2).toInt = (u127.2.2.1 a14 2).toInt := congrArg Int32.toInt (z136 a14 m_a14 k_a14 2 (by decide))
    exact B98 _ _ _ ls x97 hu hp hkl hP hD hS (by (try simp only [i_lt, i_le, i_eq, Int32.toInt_toInt64, Int32.reduceToInt, Int64.reduceToInt, true_and, and_true, false_and, and_false, false_or, or_false, true_or, or_true, not_true_eq_false, not_false_eq_true, ne_eq, forall_const, true_implies, false_implies, implies_true] at hpre tx94 g95 tx96 tx97 tx98 g99 tx100 w104 hr101 gr101 tx105 tx106 g107 tx108 w112 hr109 gr109 tx113 w115 tx116 w118 tx119 w123 hr120 gr120 w125 w129 hr126 eb133 fb133 w137 ⊢) <;> omega) (by (try simp only [i_lt, i_le, i_eq, Int32.toInt_toInt64, Int32.reduceToInt, Int64.reduceToInt, true_and, and_true, false_and, and_false, false_or, or_false, true_or, or_true, not_true_eq_false, not_false_eq_true, ne_eq, forall_const, true_implies, false_implies, implies_true] at hpre tx94 g95 tx96 tx97 tx98 g99 tx100 w104 hr101 gr101 tx105 tx106 g107 tx108 w112 hr109 gr109 tx113 w115 tx116 w118 tx119 w123 hr120 gr120 w125 w129 hr126 eb133 fb133 w137 ⊢) <;> omega) (by (try simp only [i_lt, i_le, i_eq, Int32.toInt_toInt64, Int32.reduceToInt, Int64.reduceToInt, true_and, and_true, false_and, and_false, false_or, or_false, true_or, or_true, not_true_eq_false, not_false_eq_true, ne_eq, forall_const, true_implies, false_implies, implies_true] at hpre tx94 g95 tx96 tx97 tx98 g99 tx100 w104 hr101 gr101 tx105 tx106 g107 tx108 w112 hr109 gr109 tx113 w115 tx116 w118 tx119 w123 hr120 gr120 w125 w129 hr126 eb133 fb133 w137 ⊢) <;> omega) (lv_sub hl [3, 2] rfl)
set_option maxHeartbeats 4000000 in
set_option maxRecDepth 100000 in
theorem t_X12_readRun (l : Launch) (D : va_G) (k : Nat → ClassId) (tt : TT) (u0 : PSt) (hu : WT u0) (h0 : Nat) (m_h0 : h0 ∈ u0.1) (k_h0 : u0.2.1 h0 = 12) (sz : Nat) : Met l yX12_readRun wsX12_readRun ({ frames := 8, cells := 0, slots := 0, locals := 174 }) (PreT D k tt sz (PW k u0) [.ref h0]) (va_Qv (fun v => WT v ∧ PX u0 v ∧ KL u0 v ∧ (True)) (WB D (va_A (PW k u0) sz) (PW k)) (va_A (PW k u0) sz)) 0 0 (va_A (PW k u0) sz) := by
  refine Met.ofW (cc := cX12_readRun) (maxL := 3) (ret := none) (by decide) rfl ?_
  intro p e s m args below meth c s₁ B hml hv
  obtain ⟨rfl, hsz, hP, hK, hD0, hN, hE0⟩ := hv
  have hx := B.exec
  have hb := B.bytes
  have hr := B.returns
  have hts := atoms_spec (ws := wsX12_readRun) B.pre
  have hown : s.vm.findClass RX12 = some m.cls := findClass_of_methodNamed B.named
  have hlocks := B.notSynchronized
  obtain ⟨a14, q0_14, m0_a14, k0_a14⟩ := (hu h0 m_h0).1 14 51 (by rw [k_h0]; rfl)
  have m0_h0 := m_h0
  have k0_h0 := k_h0
  have m_a14 := m0_a14
  have k_a14 := k0_a14
  subst hsz
  have hD := hD0.self (sz := s.heap.size)
  have hE := hE0
  generalize hAe : va_A (PW k u0) s.heap.size = A at hD hE ⊢
  have hA : ∀ q : Nat, s.heap.size ≤ q → A q := fun q h => by rw [← hAe]; exact Or.inr h
  have hS : va_S A s.heap s.heap [] := va_S.rf
  have hp : PX u0 u0 := PX.rf
  have hkl : KL u0 u0 := KL.rf
  have hl := lv_entry ([.ref h0]) (n := 3) (Nat.le_of_ble_eq_true rfl)
  rw [lg_entry_eq]
  generalize (lg_sl ([.ref h0]) ++ List.replicate (3 - (lg_sl ([.ref h0])).length) Slot.unset).toArray = ls at hl ⊢
  have hl : lv_has ls 3 [(0, .ref h0)] := hl
  refine lv_aload_n hx hb dX12_readRun_0 rfl (lv_at hl 0 rfl) ?_
  refine wiV (C := RX12) (As := []) (rest := []) ⟨hx, hb, hml, hown, hts⟩ (fun sz => t_X12_hoursHere l D k u0 hu h0 m_h0 k_h0  sz) (cwV 0 hts gX12_readRun_X12_hoursHere rfl rfl rfl (by decide +kernel) ⟨Nat.le_of_ble_eq_true rfl, Nat.le_of_ble_eq_true rfl⟩) hP hK hD hN hS hA (precv hK hP m_h0 (cF12 k_h0) rfl) rfl hl.1 rfl (Nat.le_of_ble_eq_true rfl) dX12_readRun_1 ⟨Nat.le_of_ble_eq_true rfl, Nat.le_of_ble_eq_true rfl⟩ (fun r1 u2 H locs hqu2 hP hD hS => ?_)
  obtain ⟨hu, hxu2, z3, hr1⟩ := hqu2
  simp only [ar_eq (((hp h0 m0_h0).2.2.2.2.2.1 k0_h0 14).trans q0_14)] at hr1
  have hkl := KL.trans hkl hp z3.toL
  have hp := PX.trans hp hxu2
  have w4 : (u2.2.2.1 a14 6).toInt = (u0.2.2.1 a14 6).toInt := congrArg Int32.toInt (z3 a14 m_a14 k_a14 6)
  have gr1 : 0 ≤ r1.toInt ∧ r1.toInt ≤ 1000 := by (try simp only [i_lt, i_le, i_eq, Int32.toInt_toInt64, Int32.reduceToInt, Int64.reduceToInt, true_and, and_true, false_and, and_false, false_or, or_false, true_or, or_true, not_true_eq_false, not_false_eq_true, ne_eq, forall_const, true_implies, false_implies, implies_true] at w4 hr1 ⊢) <;> omega
  refine lv_istore_n (lv' := [(1, .int r1), (0, .ref h0)]) hx hb dX12_readRun_4 rfl hl (by decide) rfl (fun ls hl => ?_)
  refine lv_aload_n hx hb dX12_readRun_5 rfl (lv_at hl 1 rfl) ?_
  refine va_ldcS (own := RX12) (tx := "at") (q := tt.1 56) hx hb hown (hE.2.1 (RX12, 220, "at", 56) (by decide +kernel)) dX12_readRun_6 ?_
  refine lv_iconst (v := 0) hx hb dX12_readRun_8 (by decide) ?_
  refine lv_sipush (v := 999) hx hb dX12_readRun_9 (by decide) ?_
  have k_h0 : u2.2.1 h0 = 12 := (hp h0 m0_h0).2.1.trans k0_h0
  have m_h0 : h0 ∈ u2.1 := (hp h0 m0_h0).1
  have k_a14 : u2.2.1 a14 = 51 := (hp a14 m0_a14).2.1.trans k0_a14
  have m_a14 : a14 ∈ u2.1 := (hp a14 m0_a14).1
  refine xiV (C := RX12) (As := [.ref (tt.1 56), .int 0, .int 999]) (rest := []) ⟨hx, hb, hml, hown, hts⟩ (fun sz => t_X12_told l D k tt u2 hu h0 m_h0 k_h0 56 (by decide) 0 999 sz) (cwV 3 hts gX12_readRun_X12_told rfl rfl rfl (by decide +kernel) ⟨Nat.le_of_ble_eq_true rfl, Nat.le_of_ble_eq_true rfl⟩) hP hK hD hN hE hS hA (precv hK hP m_h0 (cF12 k_h0) rfl) rfl hl.1 rfl (Nat.le_of_ble_eq_true rfl) dX12_readRun_12 ⟨Nat.le_of_ble_eq_true rfl, Nat.le_of_ble_eq_true rfl⟩ (fun r5 u6 H locs hqu6 hP hD hS => ?_)
  obtain ⟨hu, hxu6, z7, hr5⟩ := hqu6
  have hkl := KL.trans hkl hp z7.toL
  have hp := PX.trans hp hxu6
  have w8 : (u6.2.2.1 a14 6).toInt = (u2.2.2.1 a14 6).toInt := congrArg Int32.toInt (z7 a14 m_a14 k_a14 6)
  have gr5 : 0 ≤ r5.toInt ∧ r5.toInt ≤ 999 := by (try simp only [i_lt, i_le, i_eq, Int32.toInt_toInt64, Int32.reduceToInt, Int64.reduceToInt, true_and, and_true, false_and, and_false, false_or, or_false, true_or, or_true, not_true_eq_false, not_false_eq_true, ne_eq, forall_const, true_implies, false_implies, implies_true] at w4 hr1 gr1 w8 hr5 ⊢) <;> omega
  refine lv_istore_n (lv' := [(2, .int r5), (1, .int r1), (0, .ref h0)]) hx hb dX12_readRun_15 rfl hl (by decide) rfl (fun ls hl => ?_)
  refine lv_aload_n hx hb dX12_readRun_16 rfl (lv_at hl 2 rfl) ?_
  have k_h0 : u6.2.1 h0 = 12 := (hp h0 m0_h0).2.1.trans k0_h0
  have m_h0 : h0 ∈ u6.1 := (hp h0 m0_h0).1
  have k_a14 : u6.2.1 a14 = 51 := (hp a14 m0_a14).2.1.trans k0_a14
  have m_a14 : a14 ∈ u6.1 := (hp a14 m0_a14).1
  refine rvi (C := RX12) (As := []) (rest := []) ⟨hx, hb, hml, hown, hts⟩ (t_X12_good l D k u6 hu h0 m_h0 k_h0 ) (cwV 0 hts gX12_readRun_X12_good rfl rfl rfl (by decide +kernel) ⟨Nat.le_of_ble_eq_true rfl, Nat.le_of_ble_eq_true rfl⟩) hP hK (precv hK hP m_h0 (cF12 k_h0) rfl) rfl hl.1 rfl (Nat.le_of_ble_eq_true rfl) dX12_readRun_17 ⟨Nat.le_of_ble_eq_true rfl, Nat.le_of_ble_eq_true rfl⟩ (fun r9 hr9 => ?_)
  refine lv_if_eq (tgt := 30) hx hb dX12_readRun_20 (by decide) (fun c10 => ?_) (fun c10 => ?_)
  · have eb11 : r9.toInt = 0 := by rcases hr9 with ⟨q, -⟩ | ⟨q, -⟩; exact q; (exact absurd (c10) (fun w => by rw [w] at q; exact absurd q (by decide)))
    have fb11 : (u6.2.2.1 h0 12).toInt ≠ 0 := by rcases hr9 with ⟨q, r⟩ | ⟨q, r⟩; exact r; exact absurd q (by omega)
    clear hr9
    exact W.vret hx hb hr (fun t ht hW => ⟨⟨u6, rfl, ⟨hu, hp, hkl, trivial⟩, by rw [ht]; exact hP, hD⟩, hS.F ht⟩) hS.2.2 dX12_readRun_30
  · have eb12 : r9.toInt = 1 := by rcases hr9 with ⟨q, -⟩ | ⟨q, -⟩; exact absurd (i_eq.mpr q) c10; exact q
    have fb12 : (u6.2.2.1 h0 12).toInt = 0 := by rcases hr9 with ⟨q, r⟩ | ⟨q, r⟩; exact absurd q (by omega); exact r
    clear hr9
    refine lv_aload_n hx hb dX12_readRun_23 rfl (lv_at hl 2 rfl) ?_
    refine lv_iload_n hx hb dX12_readRun_24 rfl (lv_at hl 1 rfl) ?_
    refine lv_iload_n hx hb dX12_readRun_25 rfl (lv_at hl 0 rfl) ?_
    refine lv_iload_n hx hb dX12_readRun_26 rfl (lv_at hl 0 rfl) ?_
    refine wvV (C := RX12) (As := [.int r1, .int r5, .int r5]) (rest := []) ⟨hx, hb, hml, hown, hts⟩ (fun sz => t_X12_lies l D k u6 hu h0 m_h0 k_h0 r1 r5 r5 (by (try simp only [i_lt, i_le, i_eq, Int32.toInt_toInt64, Int32.reduceToInt, Int64.reduceToInt, true_and, and_true, false_and, and_false, false_or, or_false, true_or, or_true, not_true_eq_false, not_false_eq_true, ne_eq, forall_const, true_implies, false_implies, implies_true] at w4 hr1 gr1 w8 hr5 gr5 eb12 fb12 ⊢) <;> omega) (by (try simp only [i_lt, i_le, i_eq, Int32.toInt_toInt64, Int32.reduceToInt, Int64.reduceToInt, true_and, and_true, false_and, and_false, false_or, or_false, true_or, or_true, not_true_eq_false, not_false_eq_true, ne_eq, forall_const, true_implies, false_implies, implies_true] at w4 hr1 gr1 w8 hr5 gr5 eb12 fb12 ⊢) <;> omega) (by (try simp only [i_lt, i_le, i_eq, Int32.toInt_toInt64, Int32.reduceToInt, Int64.reduceToInt, true_and, and_true, false_and, and_false, false_or, or_false, true_or, or_true, not_true_eq_false, not_false_eq_true, ne_eq, forall_const, true_implies, false_implies, implies_true] at w4 hr1 gr1 w8 hr5 gr5 eb12 fb12 ⊢) <;> omega) (by (simp only [ar_eq (((hp h0 m0_h0).2.2.2.2.2.1 k0_h0 14).trans q0_14)]); (try simp only [i_lt, i_le, i_eq, Int32.toInt_toInt64, Int32.reduceToInt, Int64.reduceToInt, true_and, and_true, false_and, and_false, false_or, or_false, true_or, or_true, not_true_eq_false, not_false_eq_true, ne_eq, forall_const, true_implies, false_implies, implies_true] at w4 hr1 gr1 w8 hr5 gr5 eb12 fb12 ⊢) <;> omega) sz) (cwV 3 hts gX12_readRun_X12_lies rfl rfl rfl (by decide +kernel) ⟨Nat.le_of_ble_eq_true rfl, Nat.le_of_ble_eq_true rfl⟩) hP hK hD hN hS hA (precv hK hP m_h0 (cF12 k_h0) rfl) rfl hl.1 rfl (Nat.le_of_ble_eq_true rfl) dX12_readRun_27 ⟨Nat.le_of_ble_eq_true rfl, Nat.le_of_ble_eq_true rfl⟩ (fun u14 H locs hqu14 hP hD hS => ?_)
    obtain ⟨hu, hxu14, z15, hr13⟩ := hqu14
    have hkl := KL.trans hkl hp z15
    have hp := PX.trans hp hxu14
    exact W.vret hx hb hr (fun t ht hW => ⟨⟨u14, rfl, ⟨hu, hp, hkl, trivial⟩, by rw [ht]; exact hP, hD⟩, hS.F ht⟩) hS.2.2 dX12_readRun_30
set_option maxHeartbeats 4000000 in
set_option maxRecDepth 100000 in
theorem t_X12_readSwing (l : Launch) (D : va_G) (k : Nat → ClassId) (tt : TT) (u0 : PSt) (hu : WT u0) (h0 : Nat) (m_h0 : h0 ∈ u0.1) (k_h0 : u0.2.1 h0 = 12) (sz : Nat) : Met l yX12_readSwing wsX12_readSwing ({ frames := 8, cells := 0, slots := 0, locals := 174 }) (PreT D k tt sz (PW k u0) [.ref h0]) (va_Qv (fun v => WT v ∧ PX u0 v ∧ KL u0 v ∧ (True)) (WB D (va_A (PW k u0) sz) (PW k)) (va_A (PW k u0) sz)) 0 0 (va_A (PW k u0) sz) := by
  refine Met.ofW (cc := cX12_readSwing) (maxL := 4) (ret := none) (by decide) rfl ?_
  intro p e s m args below meth c s₁ B hml hv
  obtain ⟨rfl, hsz, hP, hK, hD0, hN, hE0⟩ := hv
  have hx := B.exec
  have hb := B.bytes
  have hr := B.returns
  have hts := atoms_spec (ws := wsX12_readSwing) B.pre
  have hown : s.vm.findClass RX12 = some m.cls := findClass_of_methodNamed B.named
  have hlocks := B.notSynchronized
  obtain ⟨a14, q0_14, m0_a14, k0_a14⟩ := (hu h0 m_h0).1 14 51 (by rw [k_h0]; rfl)
  have m0_h0 := m_h0
  have k0_h0 := k_h0
  have m_a14 := m0_a14
  have k_a14 := k0_a14
  subst hsz
  have hD := hD0.self (sz := s.heap.size)
  have hE := hE0
  generalize hAe : va_A (PW k u0) s.heap.size = A at hD hE ⊢
  have hA : ∀ q : Nat, s.heap.size ≤ q → A q := fun q h => by rw [← hAe]; exact Or.inr h
  have hS : va_S A s.heap s.heap [] := va_S.rf
  have hp : PX u0 u0 := PX.rf
  have hkl : KL u0 u0 := KL.rf
  have hl := lv_entry ([.ref h0]) (n := 4) (Nat.le_of_ble_eq_true rfl)
  rw [lg_entry_eq]
  generalize (lg_sl ([.ref h0]) ++ List.replicate (4 - (lg_sl ([.ref h0])).length) Slot.unset).toArray = ls at hl ⊢
  have hl : lv_has ls 4 [(0, .ref h0)] := hl
  refine lv_aload_n hx hb dX12_readSwing_0 rfl (lv_at hl 0 rfl) ?_
  refine lv_iconst (v := 0) hx hb dX12_readSwing_1 (by decide) ?_
  refine lv_sipush (v := 999) hx hb dX12_readSwing_2 (by decide) ?_
  refine wiV (C := RX12) (As := [.int 0, .int 999]) (rest := []) ⟨hx, hb, hml, hown, hts⟩ (fun sz => t_X12_number l D k u0 hu h0 m_h0 k_h0 0 999 sz) (cwV 2 hts gX12_readSwing_X12_number rfl rfl rfl (by decide +kernel) ⟨Nat.le_of_ble_eq_true rfl, Nat.le_of_ble_eq_true rfl⟩) hP hK hD hN hS hA (precv hK hP m_h0 (cF12 k_h0) rfl) rfl hl.1 rfl (Nat.le_of_ble_eq_true rfl) dX12_readSwing_5 ⟨Nat.le_of_ble_eq_true rfl, Nat.le_of_ble_eq_true rfl⟩ (fun r1 u2 H locs hqu2 hP hD hS => ?_)
  obtain ⟨hu, hxu2, z3, hr1⟩ := hqu2
  have hkl := KL.trans hkl hp z3.toL
  have hp := PX.trans hp hxu2
  have w4 : (u2.2.2.1 a14 6).toInt = (u0.2.2.1 a14 6).toInt := congrArg Int32.toInt (z3 a14 m_a14 k_a14 6)
  have gr1 : 0 ≤ r1.toInt ∧ r1.toInt ≤ 999 := by (try simp only [i_lt, i_le, i_eq, Int32.toInt_toInt64, Int32.reduceToInt, Int64.reduceToInt, true_and, and_true, false_and, and_false, false_or, or_false, true_or, or_true, not_true_eq_false, not_false_eq_true, ne_eq, forall_const, true_implies, false_implies, implies_true] at w4 hr1 ⊢) <;> omega
  refine lv_istore_n (lv' := [(1, .int r1), (0, .ref h0)]) hx hb dX12_readSwing_8 rfl hl (by decide) rfl (fun ls hl => ?_)
  refine lv_aload_n hx hb dX12_readSwing_9 rfl (lv_at hl 1 rfl) ?_
  refine va_ldcS (own := RX12) (tx := "and") (q := tt.1 57) hx hb hown (hE.2.1 (RX12, 225, "and", 57) (by decide +kernel)) dX12_readSwing_10 ?_
  refine lv_iconst (v := 0) hx hb dX12_readSwing_12 (by decide) ?_
  refine lv_sipush (v := 999) hx hb dX12_readSwing_13 (by decide) ?_
  have k_h0 : u2.2.1 h0 = 12 := (hp h0 m0_h0).2.1.trans k0_h0
  have m_h0 : h0 ∈ u2.1 := (hp h0 m0_h0).1
  have k_a14 : u2.2.1 a14 = 51 := (hp a14 m0_a14).2.1.trans k0_a14
  have m_a14 : a14 ∈ u2.1 := (hp a14 m0_a14).1
  refine xiV (C := RX12) (As := [.ref (tt.1 57), .int 0, .int 999]) (rest := []) ⟨hx, hb, hml, hown, hts⟩ (fun sz => t_X12_told l D k tt u2 hu h0 m_h0 k_h0 57 (by decide) 0 999 sz) (cwV 3 hts gX12_readSwing_X12_told rfl rfl rfl (by decide +kernel) ⟨Nat.le_of_ble_eq_true rfl, Nat.le_of_ble_eq_true rfl⟩) hP hK hD hN hE hS hA (precv hK hP m_h0 (cF12 k_h0) rfl) rfl hl.1 rfl (Nat.le_of_ble_eq_true rfl) dX12_readSwing_16 ⟨Nat.le_of_ble_eq_true rfl, Nat.le_of_ble_eq_true rfl⟩ (fun r5 u6 H locs hqu6 hP hD hS => ?_)
  obtain ⟨hu, hxu6, z7, hr5⟩ := hqu6
  have hkl := KL.trans hkl hp z7.toL
  have hp := PX.trans hp hxu6
  have w8 : (u6.2.2.1 a14 6).toInt = (u2.2.2.1 a14 6).toInt := congrArg Int32.toInt (z7 a14 m_a14 k_a14 6)
  have gr5 : 0 ≤ r5.toInt ∧ r5.toInt ≤ 999 := by (try simp only [i_lt, i_le, i_eq, Int32.toInt_toInt64, Int32.reduceToInt, Int64.reduceToInt, true_and, and_true, false_and, and_false, false_or, or_false, true_or, or_true, not_true_eq_false, not_false_eq_true, ne_eq, forall_const, true_implies, false_implies, implies_true] at w4 hr1 gr1 w8 hr5 ⊢) <;> omega
  refine lv_istore_n (lv' := [(2, .int r5), (1, .int r1), (0, .ref h0)]) hx hb dX12_readSwing_19 rfl hl (by decide) rfl (fun ls hl => ?_)
  refine lv_aload_n hx hb dX12_readSwing_20 rfl (lv_at hl 2 rfl) ?_
  refine va_ldcS (own := RX12) (tx := "for") (q := tt.1 58) hx hb hown (hE.2.1 (RX12, 227, "for", 58) (by decide +kernel)) dX12_readSwing_21 ?_
  have k_h0 : u6.2.1 h0 = 12 := (hp h0 m0_h0).2.1.trans k0_h0
  have m_h0 : h0 ∈ u6.1 := (hp h0 m0_h0).1
  have k_a14 : u6.2.1 a14 = 51 := (hp a14 m0_a14).2.1.trans k0_a14
  have m_a14 : a14 ∈ u6.1 := (hp a14 m0_a14).1
  refine xvV (C := RX12) (As := [.ref (tt.1 58)]) (rest := []) ⟨hx, hb, hml, hown, hts⟩ (fun sz => t_X12_needsWord l D k tt u6 hu h0 m_h0 k_h0 58 (by decide) sz) (cwV 1 hts gX12_readSwing_X12_needsWord rfl rfl rfl (by decide +kernel) ⟨Nat.le_of_ble_eq_true rfl, Nat.le_of_ble_eq_true rfl⟩) hP hK hD hN hE hS hA (precv hK hP m_h0 (cF12 k_h0) rfl) rfl hl.1 rfl (Nat.le_of_ble_eq_true rfl) dX12_readSwing_23 ⟨Nat.le_of_ble_eq_true rfl, Nat.le_of_ble_eq_true rfl⟩ (fun u10 H locs hqu10 hP hD hS => ?_)
  obtain ⟨hu, hxu10, z11, hr9⟩ := hqu10
  have hkl := KL.trans hkl hp z11.toL
  have hp := PX.trans hp hxu10
  have w12 : (u10.2.2.1 a14 6).toInt = (u6.2.2.1 a14 6).toInt := congrArg Int32.toInt (z11 a14 m_a14 k_a14 6)
  refine lv_aload_n hx hb dX12_readSwing_26 rfl (lv_at hl 2 rfl) ?_
  have k_h0 : u10.2.1 h0 = 12 := (hp h0 m0_h0).2.1.trans k0_h0
  have m_h0 : h0 ∈ u10.1 := (hp h0 m0_h0).1
  have k_a14 : u10.2.1 a14 = 51 := (hp a14 m0_a14).2.1.trans k0_a14
  have m_a14 : a14 ∈ u10.1 := (hp a14 m0_a14).1
  refine wiV (C := RX12) (As := []) (rest := []) ⟨hx, hb, hml, hown, hts⟩ (fun sz => t_X12_hoursHere l D k u10 hu h0 m_h0 k_h0  sz) (cwV 0 hts gX12_readSwing_X12_hoursHere rfl rfl rfl (by decide +kernel) ⟨Nat.le_of_ble_eq_true rfl, Nat.le_of_ble_eq_true rfl⟩) hP hK hD hN hS hA (precv hK hP m_h0 (cF12 k_h0) rfl) rfl hl.1 rfl (Nat.le_of_ble_eq_true rfl) dX12_readSwing_27 ⟨Nat.le_of_ble_eq_true rfl, Nat.le_of_ble_eq_true rfl⟩ (fun r13 u14 H locs hqu14 hP hD hS => ?_)
  obtain ⟨hu, hxu14, z15, hr13⟩ := hqu14
  simp only [ar_eq (((hp h0 m0_h0).2.2.2.2.2.1 k0_h0 14).trans q0_14)] at hr13
  have hkl := KL.trans hkl hp z15.toL
  have hp := PX.trans hp hxu14
  have w16 : (u14.2.2.1 a14 6).toInt = (u10.2.2.1 a14 6).toInt := congrArg Int32.toInt (z15 a14 m_a14 k_a14 6)
  have gr13 : 0 ≤ r13.toInt ∧ r13.toInt ≤ 1000 := by (try simp only [i_lt, i_le, i_eq, Int32.toInt_toInt64, Int32.reduceToInt, Int64.reduceToInt, true_and, and_true, false_and, and_false, false_or, or_false, true_or, or_true, not_true_eq_false, not_false_eq_true, ne_eq, forall_const, true_implies, false_implies, implies_true] at w4 hr1 gr1 w8 hr5 gr5 w12 hr9 w16 hr13 ⊢) <;> omega
  refine lv_istore_n (lv' := [(3, .int r13), (2, .int r5), (1, .int r1), (0, .ref h0)]) hx hb dX12_readSwing_30 rfl hl (by decide) rfl (fun ls hl => ?_)
  refine lv_aload_n hx hb dX12_readSwing_31 rfl (lv_at hl 3 rfl) ?_
  have k_h0 : u14.2.1 h0 = 12 := (hp h0 m0_h0).2.1.trans k0_h0
  have m_h0 : h0 ∈ u14.1 := (hp h0 m0_h0).1
  have k_a14 : u14.2.1 a14 = 51 := (hp a14 m0_a14).2.1.trans k0_a14
  have m_a14 : a14 ∈ u14.1 := (hp a14 m0_a14).1
  refine rvi (C := RX12) (As := []) (rest := []) ⟨hx, hb, hml, hown, hts⟩ (t_X12_good l D k u14 hu h0 m_h0 k_h0 ) (cwV 0 hts gX12_readSwing_X12_good rfl rfl rfl (by decide +kernel) ⟨Nat.le_of_ble_eq_true rfl, Nat.le_of_ble_eq_true rfl⟩) hP hK (precv hK hP m_h0 (cF12 k_h0) rfl) rfl hl.1 rfl (Nat.le_of_ble_eq_true rfl) dX12_readSwing_32 ⟨Nat.le_of_ble_eq_true rfl, Nat.le_of_ble_eq_true rfl⟩ (fun r17 hr17 => ?_)
  refine lv_if_eq (tgt := 45) hx hb dX12_readSwing_35 (by decide) (fun c18 => ?_) (fun c18 => ?_)
  · have eb19 : r17.toInt = 0 := by rcases hr17 with ⟨q, -⟩ | ⟨q, -⟩; exact q; (exact absurd (c18) (fun w => by rw [w] at q; exact absurd q (by decide)))
    have fb19 : (u14.2.2.1 h0 12).toInt ≠ 0 := by rcases hr17 with ⟨q, r⟩ | ⟨q, r⟩; exact r; exact absurd q (by omega)
    clear hr17
    exact W.vret hx hb hr (fun t ht hW => ⟨⟨u14, rfl, ⟨hu, hp, hkl, trivial⟩, by rw [ht]; exact hP, hD⟩, hS.F ht⟩) hS.2.2 dX12_readSwing_45
  · have eb20 : r17.toInt = 1 := by rcases hr17 with ⟨q, -⟩ | ⟨q, -⟩; exact absurd (i_eq.mpr q) c18; exact q
    have fb20 : (u14.2.2.1 h0 12).toInt = 0 := by rcases hr17 with ⟨q, r⟩ | ⟨q, r⟩; exact absurd q (by omega); exact r
    clear hr17
    refine lv_aload_n hx hb dX12_readSwing_38 rfl (lv_at hl 3 rfl) ?_
    refine lv_iload_n hx hb dX12_readSwing_39 rfl (lv_at hl 0 rfl) ?_
    refine lv_iload_n hx hb dX12_readSwing_40 rfl (lv_at hl 2 rfl) ?_
    refine lv_iload_n hx hb dX12_readSwing_41 rfl (lv_at hl 1 rfl) ?_
    refine wvV (C := RX12) (As := [.int r13, .int r1, .int r5]) (rest := []) ⟨hx, hb, hml, hown, hts⟩ (fun sz => t_X12_lies l D k u14 hu h0 m_h0 k_h0 r13 r1 r5 (by (try simp only [i_lt, i_le, i_eq, Int32.toInt_toInt64, Int32.reduceToInt, Int64.reduceToInt, true_and, and_true, false_and, and_false, false_or, or_false, true_or, or_true, not_true_eq_false, not_false_eq_true, ne_eq, forall_const, true_implies, false_implies, implies_true] at w4 hr1 gr1 w8 hr5 gr5 w12 hr9 w16 hr13 gr13 eb20 fb20 ⊢) <;> omega) (by (try simp only [i_lt, i_le, i_eq, Int32.toInt_toInt64, Int32.reduceToInt, Int64.reduceToInt, true_and, and_true, false_and, and_false, false_or, or_false, true_or, or_true, not_true_eq_false, not_false_eq_true, ne_eq, forall_const, true_implies, false_implies, implies_true] at w4 hr1 gr1 w8 hr5 gr5 w12 hr9 w16 hr13 gr13 eb20 fb20 ⊢) <;> omega) (by (try simp only [i_lt, i_le, i_eq, Int32.toInt_toInt64, Int32.reduceToInt, Int64.reduceToInt, true_and, and_true, false_and, and_false, false_or, or_false, true_or, or_true, not_true_eq_false, not_false_eq_true, ne_eq, forall_const, true_implies, false_implies, implies_true] at w4 hr1 gr1 w8 hr5 gr5 w12 hr9 w16 hr13 gr13 eb20 fb20 ⊢) <;> omega) (by (simp only [ar_eq (((hp h0 m0_h0).2.2.2.2.2.1 k0_h0 14).trans q0_14)]); (try simp only [i_lt, i_le, i_eq, Int32.toInt_toInt64, Int32.reduceToInt, Int64.reduceToInt, true_and, and_true, false_and, and_false, false_or, or_false, true_or, or_true, not_true_eq_false, not_false_eq_true, ne_eq, forall_const, true_implies, false_implies, implies_true] at w4 hr1 gr1 w8 hr5 gr5 w12 hr9 w16 hr13 gr13 eb20 fb20 ⊢) <;> omega) sz) (cwV 3 hts gX12_readSwing_X12_lies rfl rfl rfl (by decide +kernel) ⟨Nat.le_of_ble_eq_true rfl, Nat.le_of_ble_eq_true rfl⟩) hP hK hD hN hS hA (precv hK hP m_h0 (cF12 k_h0) rfl) rfl hl.1 rfl (Nat.le_of_ble_eq_true rfl) dX12_readSwing_42 ⟨Nat.le_of_ble_eq_true rfl, Nat.le_of_ble_eq_true rfl⟩ (fun u22 H locs hqu22 hP hD hS => ?_)
    obtain ⟨hu, hxu22, z23, hr21⟩ := hqu22
    have hkl := KL.trans hkl hp z23
    have hp := PX.trans hp hxu22
    exact W.vret hx hb hr (fun t ht hW => ⟨⟨u22, rfl, ⟨hu, hp, hkl, trivial⟩, by rw [ht]; exact hP, hD⟩, hS.F ht⟩) hS.2.2 dX12_readSwing_45
set_option maxHeartbeats 4000000 in
set_option maxRecDepth 100000 in
theorem t_X12_readRoom (l : Launch) (D : va_G) (k : Nat → ClassId) (tt : TT) (u0 : PSt) (hu : WT u0) (h0 : Nat) (m_h0 : h0 ∈ u0.1) (k_h0 : u0.2.1 h0 = 12) (hpre : (u0.2.2.1 (ar u0 h0 14) 3).toInt ≤ 11) (sz : Nat) : Met l yX12_readRoom wsX12_readRoom ({ frames := 8, cells := 0, slots := 0, locals := 174 }) (PreT D k tt sz (PW k u0) [.ref h0]) (va_Qv (fun v => WT v ∧ PX u0 v ∧ KL u0 v ∧ (True)) (WB D (va_A (PW k u0) sz) (PW k)) (va_A (PW k u0) sz)) 0 0 (va_A (PW k u0) sz) := by
  refine Met.ofW (cc := cX12_readRoom) (maxL := 2) (ret := none) (by decide) rfl ?_
  intro p e s m args below meth c s₁ B hml hv
  obtain ⟨rfl, hsz, hP, hK, hD0, hN, hE0⟩ := hv
  have hx := B.exec
  have hb := B.bytes
  have hr := B.returns
  have hts := atoms_spec (ws := wsX12_readRoom) B.pre
  have hown : s.vm.findClass RX12 = some m.cls := findClass_of_methodNamed B.named
  have hlocks := B.notSynchronized
  have i_X12 : ∀ w ∈ wsX120, w ∈ wsX12_readRoom := by decide +kernel
  obtain ⟨a14, q0_14, m0_a14, k0_a14⟩ := (hu h0 m_h0).1 14 51 (by rw [k_h0]; rfl)
  have m0_h0 := m_h0
  have k0_h0 := k_h0
  have m_a14 := m0_a14
  have k_a14 := k0_a14
  subst hsz
  have hD := hD0.self (sz := s.heap.size)
  have hE := hE0
  generalize hAe : va_A (PW k u0) s.heap.size = A at hD hE ⊢
  have hA : ∀ q : Nat, s.heap.size ≤ q → A q := fun q h => by rw [← hAe]; exact Or.inr h
  have hS : va_S A s.heap s.heap [] := va_S.rf
  have hp : PX u0 u0 := PX.rf
  have hkl : KL u0 u0 := KL.rf
  simp only [ar_eq q0_14] at hpre
  have hl := lv_entry ([.ref h0]) (n := 2) (Nat.le_of_ble_eq_true rfl)
  rw [lg_entry_eq]
  generalize (lg_sl ([.ref h0]) ++ List.replicate (2 - (lg_sl ([.ref h0])).length) Slot.unset).toArray = ls at hl ⊢
  have hl : lv_has ls 2 [(0, .ref h0)] := hl
  refine lv_sipush (v := 314) hx hb dX12_readRoom_0 (by decide) ?_
  refine lv_iconst (v := 5) hx hb dX12_readRoom_3 (by decide) ?_
  refine lv_aload_n hx hb dX12_readRoom_4 rfl (lv_at hl 0 rfl) ?_
  refine pget (ci := 12) (v := va_rf (u0.2.2.2.2 h0 14)) (C := RX12) (T := TX12) (N := 34) hx hb hts i_X12 hown hK hP m_h0 (cF12 k_h0) rfl 14 (by decide) (hts (.fieldLink RX12 34 "BellowsRowModel" "fresh" "[I") (by decide +kernel)) (fun _ h9 => h9) rfl dX12_readRoom_5 ?_
  refine W.eq (g2 := F0 m 8 ls [.ref a14, .int 5, .int 314]) (by rw [(((hp h0 m0_h0).2.2.2.2.2.1 k0_h0 14).trans q0_14)]; rfl) ?_
  refine lv_iconst (v := 3) hx hb dX12_readRoom_8 (by decide) ?_
  refine palI hx hb hK hP m_a14 (cF51 k_a14) 1 rfl (vp_in_iff.mpr (by decide)) dX12_readRoom_9 ?_
  refine lv_topi (fun x1 ex1 => ?_)
  have tx1 : x1.toInt = (u0.2.2.1 a14 3).toInt := congrArg Int32.toInt ex1
  have g2 : 0 ≤ x1.toInt ∧ x1.toInt ≤ 12 := by have g : okI (u0.2.1 a14) (3) (u0.2.2.1 a14 (3)) := (hu a14 m_a14).2.2.2 (3); rw [k_a14, ← (show x1 = u0.2.2.1 a14 (3) from ex1)] at g; have g : okW (3) x1 := g; unfold okW at g; (try simp only [i_lt, i_le, i_eq, Int32.toInt_toInt64, Int32.reduceToInt, Int64.reduceToInt, true_and, and_true, false_and, and_false, false_or, or_false, true_or, or_true, not_true_eq_false, not_false_eq_true, ne_eq, forall_const, true_implies, false_implies, implies_true] at hpre tx1 g ⊢) <;> omega
  refine lv_imul hx hb dX12_readRoom_10 ?_
  refine lv_topi (fun x3 ex3 => ?_)
  have tx3 : x3.toInt = 5 * x1.toInt := by rw [ex3]; exact i_mulc (c := 5) (by decide) ((show 0 ≤ x1.toInt ∧ x1.toInt ≤ 12 from by (try simp only [i_lt, i_le, i_eq, Int32.toInt_toInt64, Int32.reduceToInt, Int64.reduceToInt, true_and, and_true, false_and, and_false, false_or, or_false, true_or, or_true, not_true_eq_false, not_false_eq_true, ne_eq, forall_const, true_implies, false_implies, implies_true] at hpre tx1 g2 ⊢) <;> omega)) (by decide)
  refine lv_iadd hx hb dX12_readRoom_11 ?_
  refine lv_topi (fun x4 ex4 => ?_)
  have tx4 : x4.toInt = (314 : Int32).toInt + x3.toInt := by rw [ex4]; exact i_add (by (try simp only [i_lt, i_le, i_eq, Int32.toInt_toInt64, Int32.reduceToInt, Int64.reduceToInt, true_and, and_true, false_and, and_false, false_or, or_false, true_or, or_true, not_true_eq_false, not_false_eq_true, ne_eq, forall_const, true_implies, false_implies, implies_true] at hpre tx1 g2 tx3 ⊢) <;> omega) (by (try simp only [i_lt, i_le, i_eq, Int32.toInt_toInt64, Int32.reduceToInt, Int64.reduceToInt, true_and, and_true, false_and, and_false, false_or, or_false, true_or, or_true, not_true_eq_false, not_false_eq_true, ne_eq, forall_const, true_implies, false_implies, implies_true] at hpre tx1 g2 tx3 ⊢) <;> omega)
  refine lv_istore_n (lv' := [(1, .int x4), (0, .ref h0)]) hx hb dX12_readRoom_12 rfl hl (by decide) rfl (fun ls hl => ?_)
  refine lv_aload_n hx hb dX12_readRoom_13 rfl (lv_at hl 1 rfl) ?_
  refine pget (ci := 12) (v := va_rf (u0.2.2.2.2 h0 14)) (C := RX12) (T := TX12) (N := 34) hx hb hts i_X12 hown hK hP m_h0 (cF12 k_h0) rfl 14 (by decide) (hts (.fieldLink RX12 34 "BellowsRowModel" "fresh" "[I") (by decide +kernel)) (fun _ h9 => h9) rfl dX12_readRoom_14 ?_
  refine W.eq (g2 := F0 m 17 ls [.ref a14]) (by rw [(((hp h0 m0_h0).2.2.2.2.2.1 k0_h0 14).trans q0_14)]; rfl) ?_
  refine lv_iload_n hx hb dX12_readRoom_17 rfl (lv_at hl 0 rfl) ?_
  refine lv_aload_n hx hb dX12_readRoom_18 rfl (lv_at hl 1 rfl) ?_
  refine va_ldcS (own := RX12) (tx := "at") (q := tt.1 56) hx hb hown (hE.2.1 (RX12, 220, "at", 56) (by decide +kernel)) dX12_readRoom_19 ?_
  refine lv_iconst (v := 0) hx hb dX12_readRoom_21 (by decide) ?_
  refine lv_sipush (v := 999) hx hb dX12_readRoom_22 (by decide) ?_
  refine xiV (C := RX12) (As := [.ref (tt.1 56), .int 0, .int 999]) (rest := [.int x4, .ref a14]) ⟨hx, hb, hml, hown, hts⟩ (fun sz => t_X12_told l D k tt u0 hu h0 m_h0 k_h0 56 (by decide) 0 999 sz) (cwV 3 hts gX12_readRoom_X12_told rfl rfl rfl (by decide +kernel) ⟨Nat.le_of_ble_eq_true rfl, Nat.le_of_ble_eq_true rfl⟩) hP hK hD hN hE hS hA (precv hK hP m_h0 (cF12 k_h0) rfl) rfl hl.1 rfl (Nat.le_of_ble_eq_true rfl) dX12_readRoom_25 ⟨Nat.le_of_ble_eq_true rfl, Nat.le_of_ble_eq_true rfl⟩ (fun r5 u6 H locs hqu6 hP hD hS => ?_)
  obtain ⟨hu, hxu6, z7, hr5⟩ := hqu6
  have hkl := KL.trans hkl hp z7.toL
  have hp := PX.trans hp hxu6
  have w8 : (u6.2.2.1 a14 3).toInt = (u0.2.2.1 a14 3).toInt := congrArg Int32.toInt (z7 a14 m_a14 k_a14 3)
  have gr5 : 0 ≤ r5.toInt ∧ r5.toInt ≤ 999 := by (try simp only [i_lt, i_le, i_eq, Int32.toInt_toInt64, Int32.reduceToInt, Int64.reduceToInt, true_and, and_true, false_and, and_false, false_or, or_false, true_or, or_true, not_true_eq_false, not_false_eq_true, ne_eq, forall_const, true_implies, false_implies, implies_true] at hpre tx1 g2 tx3 tx4 w8 hr5 ⊢) <;> omega
  have k_h0 : u6.2.1 h0 = 12 := (hp h0 m0_h0).2.1.trans k0_h0
  have m_h0 : h0 ∈ u6.1 := (hp h0 m0_h0).1
  have k_a14 : u6.2.1 a14 = 51 := (hp a14 m0_a14).2.1.trans k0_a14
  have m_a14 : a14 ∈ u6.1 := (hp a14 m0_a14).1
  refine pasI (u' := pSI u6 a14 (x4.toNatClampNeg) r5) hx hb hK hP hD hS m_a14 (cF51 k_a14) 1 rfl (vp_in_iff.mpr (by (try simp only [i_lt, i_le, i_eq, Int32.toInt_toInt64, Int32.reduceToInt, Int64.reduceToInt, true_and, and_true, false_and, and_false, false_or, or_false, true_or, or_true, not_true_eq_false, not_false_eq_true, ne_eq, forall_const, true_implies, false_implies, implies_true] at hpre tx1 g2 tx3 tx4 w8 hr5 gr5 ⊢) <;> omega)) rfl (sF51 k_a14 _ _) dX12_readRoom_28 (fun H locs hP hD hS => ?_)
  have hu := WT.setI (a := a14) (s := (x4.toNatClampNeg)) (v := r5) hu (by rw [k_a14]; exact (show okW (x4.toNatClampNeg) r5 from by unfold okW; have z := cl_int (x := x4) (by (try simp only [i_lt, i_le, i_eq, Int32.toInt_toInt64, Int32.reduceToInt, Int64.reduceToInt, true_and, and_true, false_and, and_false, false_or, or_false, true_or, or_true, not_true_eq_false, not_false_eq_true, ne_eq, forall_const, true_implies, false_implies, implies_true] at hpre tx1 g2 tx3 tx4 w8 hr5 gr5 ⊢) <;> omega); (try simp only [i_lt, i_le, i_eq, Int32.toInt_toInt64, Int32.reduceToInt, Int64.reduceToInt, true_and, and_true, false_and, and_false, false_or, or_false, true_or, or_true, not_true_eq_false, not_false_eq_true, ne_eq, forall_const, true_implies, false_implies, implies_true] at hpre tx1 g2 tx3 tx4 w8 hr5 gr5 z ⊢) <;> omega))
  have hkl := KL.setF (a := a14) (s := (x4.toNatClampNeg)) (v := r5) hkl (by have z := cl_int (x := x4) (by (try simp only [i_lt, i_le, i_eq, Int32.toInt_toInt64, Int32.reduceToInt, Int64.reduceToInt, true_and, and_true, false_and, and_false, false_or, or_false, true_or, or_true, not_true_eq_false, not_false_eq_true, ne_eq, forall_const, true_implies, false_implies, implies_true] at hpre tx1 g2 tx3 tx4 w8 hr5 gr5 ⊢) <;> omega); (try simp only [i_lt, i_le, i_eq, Int32.toInt_toInt64, Int32.reduceToInt, Int64.reduceToInt, true_and, and_true, false_and, and_false, false_or, or_false, true_or, or_true, not_true_eq_false, not_false_eq_true, ne_eq, forall_const, true_implies, false_implies, implies_true] at hpre tx1 g2 tx3 tx4 w8 hr5 gr5 z ⊢) <;> omega)
  have hp := PX.setI (a := a14) (s := (x4.toNatClampNeg)) (v := r5) hp (by rw [k_a14]; decide)
  obtain ⟨u9, hu9⟩ : ∃ z, z = pSI u6 a14 (x4.toNatClampNeg) r5 := ⟨_, rfl⟩
  rw [← hu9] at hP hD hu hp hkl
  have w10 : (u9.2.2.1 a14 3).toInt = (u6.2.2.1 a14 3).toInt := by rw [hu9]; exact congrArg Int32.toInt (if_neg (fun q => by have y := q.2; have z := cl_int (x := x4) (by (try simp only [i_lt, i_le, i_eq, Int32.toInt_toInt64, Int32.reduceToInt, Int64.reduceToInt, true_and, and_true, false_and, and_false, false_or, or_false, true_or, or_true, not_true_eq_false, not_false_eq_true, ne_eq, forall_const, true_implies, false_implies, implies_true] at hpre tx1 g2 tx3 tx4 w8 hr5 gr5 ⊢) <;> omega); (try simp only [i_lt, i_le, i_eq, Int32.toInt_toInt64, Int32.reduceToInt, Int64.reduceToInt, true_and, and_true, false_and, and_false, false_or, or_false, true_or, or_true, not_true_eq_false, not_false_eq_true, ne_eq, forall_const, true_implies, false_implies, implies_true] at hpre tx1 g2 tx3 tx4 w8 hr5 gr5 y z ⊢) <;> omega))
  refine lv_aload_n hx hb dX12_readRoom_29 rfl (lv_at hl 1 rfl) ?_
  have k_h0 : u9.2.1 h0 = 12 := (hp h0 m0_h0).2.1.trans k0_h0
  have m_h0 : h0 ∈ u9.1 := (hp h0 m0_h0).1
  have k_a14 : u9.2.1 a14 = 51 := (hp a14 m0_a14).2.1.trans k0_a14
  have m_a14 : a14 ∈ u9.1 := (hp a14 m0_a14).1
  refine pget (ci := 12) (v := va_rf (u9.2.2.2.2 h0 14)) (C := RX12) (T := TX12) (N := 34) hx hb hts i_X12 hown hK hP m_h0 (cF12 k_h0) rfl 14 (by decide) (hts (.fieldLink RX12 34 "BellowsRowModel" "fresh" "[I") (by decide +kernel)) (fun _ h9 => h9) rfl dX12_readRoom_30 ?_
  refine W.eq (g2 := F0 m 33 ls [.ref a14]) (by rw [(((hp h0 m0_h0).2.2.2.2.2.1 k0_h0 14).trans q0_14)]; rfl) ?_
  refine lv_iload_n hx hb dX12_readRoom_33 rfl (lv_at hl 0 rfl) ?_
  refine lv_iconst (v := 1) hx hb dX12_readRoom_34 (by decide) ?_
  refine lv_iadd hx hb dX12_readRoom_35 ?_
  refine lv_topi (fun x11 ex11 => ?_)
  have tx11 : x11.toInt = x4.toInt + (1 : Int32).toInt := by rw [ex11]; exact i_add (by (try simp only [i_lt, i_le, i_eq, Int32.toInt_toInt64, Int32.reduceToInt, Int64.reduceToInt, true_and, and_true, false_and, and_false, false_or, or_false, true_or, or_true, not_true_eq_false, not_false_eq_true, ne_eq, forall_const, true_implies, false_implies, implies_true] at hpre tx1 g2 tx3 tx4 w8 hr5 gr5 w10 ⊢) <;> omega) (by (try simp only [i_lt, i_le, i_eq, Int32.toInt_toInt64, Int32.reduceToInt, Int64.reduceToInt, true_and, and_true, false_and, and_false, false_or, or_false, true_or, or_true, not_true_eq_false, not_false_eq_true, ne_eq, forall_const, true_implies, false_implies, implies_true] at hpre tx1 g2 tx3 tx4 w8 hr5 gr5 w10 ⊢) <;> omega)
  refine lv_aload_n hx hb dX12_readRoom_36 rfl (lv_at hl 1 rfl) ?_
  refine lv_iconst (v := 0) hx hb dX12_readRoom_37 (by decide) ?_
  refine lv_sipush (v := 500) hx hb dX12_readRoom_38 (by decide) ?_
  refine wiV (C := RX12) (As := [.int 0, .int 500]) (rest := [.int x11, .ref a14]) ⟨hx, hb, hml, hown, hts⟩ (fun sz => t_X12_number l D k u9 hu h0 m_h0 k_h0 0 500 sz) (cwV 2 hts gX12_readRoom_X12_number rfl rfl rfl (by decide +kernel) ⟨Nat.le_of_ble_eq_true rfl, Nat.le_of_ble_eq_true rfl⟩) hP hK hD hN hS hA (precv hK hP m_h0 (cF12 k_h0) rfl) rfl hl.1 rfl (Nat.le_of_ble_eq_true rfl) dX12_readRoom_41 ⟨Nat.le_of_ble_eq_true rfl, Nat.le_of_ble_eq_true rfl⟩ (fun r12 u13 H locs hqu13 hP hD hS => ?_)
  obtain ⟨hu, hxu13, z14, hr12⟩ := hqu13
  have hkl := KL.trans hkl hp z14.toL
  have hp := PX.trans hp hxu13
  have w15 : (u13.2.2.1 a14 3).toInt = (u9.2.2.1 a14 3).toInt := congrArg Int32.toInt (z14 a14 m_a14 k_a14 3)
  have gr12 : 0 ≤ r12.toInt ∧ r12.toInt ≤ 500 := by (try simp only [i_lt, i_le, i_eq, Int32.toInt_toInt64, Int32.reduceToInt, Int64.reduceToInt, true_and, and_true, false_and, and_false, false_or, or_false, true_or, or_true, not_true_eq_false, not_false_eq_true, ne_eq, forall_const, true_implies, false_implies, implies_true] at hpre tx1 g2 tx3 tx4 w8 hr5 gr5 w10 tx11 w15 hr12 ⊢) <;> omega
  have k_h0 : u13.2.1 h0 = 12 := (hp h0 m0_h0).2.1.trans k0_h0
  have m_h0 : h0 ∈ u13.1 := (hp h0 m0_h0).1
  have k_a14 : u13.2.1 a14 = 51 := (hp a14 m0_a14).2.1.trans k0_a14
  have m_a14 : a14 ∈ u13.1 := (hp a14 m0_a14).1
  refine pasI (u' := pSI u13 a14 (x11.toNatClampNeg) r12) hx hb hK hP hD hS m_a14 (cF51 k_a14) 1 rfl (vp_in_iff.mpr (by (try simp only [i_lt, i_le, i_eq, Int32.toInt_toInt64, Int32.reduceToInt, Int64.reduceToInt, true_and, and_true, false_and, and_false, false_or, or_false, true_or, or_true, not_true_eq_false, not_false_eq_true, ne_eq, forall_const, true_implies, false_implies, implies_true] at hpre tx1 g2 tx3 tx4 w8 hr5 gr5 w10 tx11 w15 hr12 gr12 ⊢) <;> omega)) rfl (sF51 k_a14 _ _) dX12_readRoom_44 (fun H locs hP hD hS => ?_)
  have hu := WT.setI (a := a14) (s := (x11.toNatClampNeg)) (v := r12) hu (by rw [k_a14]; exact (show okW (x11.toNatClampNeg) r12 from by unfold okW; have z := cl_int (x := x11) (by (try simp only [i_lt, i_le, i_eq, Int32.toInt_toInt64, Int32.reduceToInt, Int64.reduceToInt, true_and, and_true, false_and, and_false, false_or, or_false, true_or, or_true, not_true_eq_false, not_false_eq_true, ne_eq, forall_const, true_implies, false_implies, implies_true] at hpre tx1 g2 tx3 tx4 w8 hr5 gr5 w10 tx11 w15 hr12 gr12 ⊢) <;> omega); (try simp only [i_lt, i_le, i_eq, Int32.toInt_toInt64, Int32.reduceToInt, Int64.reduceToInt, true_and, and_true, false_and, and_false, false_or, or_false, true_or, or_true, not_true_eq_false, not_false_eq_true, ne_eq, forall_const, true_implies, false_implies, implies_true] at hpre tx1 g2 tx3 tx4 w8 hr5 gr5 w10 tx11 w15 hr12 gr12 z ⊢) <;> omega))
  have hkl := KL.setF (a := a14) (s := (x11.toNatClampNeg)) (v := r12) hkl (by have z := cl_int (x := x11) (by (try simp only [i_lt, i_le, i_eq, Int32.toInt_toInt64, Int32.reduceToInt, Int64.reduceToInt, true_and, and_true, false_and, and_false, false_or, or_false, true_or, or_true, not_true_eq_false, not_false_eq_true, ne_eq, forall_const, true_implies, false_implies, implies_true] at hpre tx1 g2 tx3 tx4 w8 hr5 gr5 w10 tx11 w15 hr12 gr12 ⊢) <;> omega); (try simp only [i_lt, i_le, i_eq, Int32.toInt_toInt64, Int32.reduceToInt, Int64.reduceToInt, true_and, and_true, false_and, and_false, false_or, or_false, true_or, or_true, not_true_eq_false, not_false_eq_true, ne_eq, forall_const, true_implies, false_implies, implies_true] at hpre tx1 g2 tx3 tx4 w8 hr5 gr5 w10 tx11 w15 hr12 gr12 z ⊢) <;> omega)
  have hp := PX.setI (a := a14) (s := (x11.toNatClampNeg)) (v := r12) hp (by rw [k_a14]; decide)
  obtain ⟨u16, hu16⟩ : ∃ z, z = pSI u13 a14 (x11.toNatClampNeg) r12 := ⟨_, rfl⟩
  rw [← hu16] at hP hD hu hp hkl
  have w17 : (u16.2.2.1 a14 3).toInt = (u13.2.2.1 a14 3).toInt := by rw [hu16]; exact congrArg Int32.toInt (if_neg (fun q => by have y := q.2; have z := cl_int (x := x11) (by (try simp only [i_lt, i_le, i_eq, Int32.toInt_toInt64, Int32.reduceToInt, Int64.reduceToInt, true_and, and_true, false_and, and_false, false_or, or_false, true_or, or_true, not_true_eq_false, not_false_eq_true, ne_eq, forall_const, true_implies, false_implies, implies_true] at hpre tx1 g2 tx3 tx4 w8 hr5 gr5 w10 tx11 w15 hr12 gr12 ⊢) <;> omega); (try simp only [i_lt, i_le, i_eq, Int32.toInt_toInt64, Int32.reduceToInt, Int64.reduceToInt, true_and, and_true, false_and, and_false, false_or, or_false, true_or, or_true, not_true_eq_false, not_false_eq_true, ne_eq, forall_const, true_implies, false_implies, implies_true] at hpre tx1 g2 tx3 tx4 w8 hr5 gr5 w10 tx11 w15 hr12 gr12 y z ⊢) <;> omega))
  refine lv_aload_n hx hb dX12_readRoom_45 rfl (lv_at hl 1 rfl) ?_
  have k_h0 : u16.2.1 h0 = 12 := (hp h0 m0_h0).2.1.trans k0_h0
  have m_h0 : h0 ∈ u16.1 := (hp h0 m0_h0).1
  have k_a14 : u16.2.1 a14 = 51 := (hp a14 m0_a14).2.1.trans k0_a14
  have m_a14 : a14 ∈ u16.1 := (hp a14 m0_a14).1
  refine pget (ci := 12) (v := va_rf (u16.2.2.2.2 h0 14)) (C := RX12) (T := TX12) (N := 34) hx hb hts i_X12 hown hK hP m_h0 (cF12 k_h0) rfl 14 (by decide) (hts (.fieldLink RX12 34 "BellowsRowModel" "fresh" "[I") (by decide +kernel)) (fun _ h9 => h9) rfl dX12_readRoom_46 ?_
  refine W.eq (g2 := F0 m 49 ls [.ref a14]) (by rw [(((hp h0 m0_h0).2.2.2.2.2.1 k0_h0 14).trans q0_14)]; rfl) ?_
  refine lv_iload_n hx hb dX12_readRoom_49 rfl (lv_at hl 0 rfl) ?_
  refine lv_iconst (v := 2) hx hb dX12_readRoom_50 (by decide) ?_
  refine lv_iadd hx hb dX12_readRoom_51 ?_
  refine lv_topi (fun x18 ex18 => ?_)
  have tx18 : x18.toInt = x4.toInt + (2 : Int32).toInt := by rw [ex18]; exact i_add (by (try simp only [i_lt, i_le, i_eq, Int32.toInt_toInt64, Int32.reduceToInt, Int64.reduceToInt, true_and, and_true, false_and, and_false, false_or, or_false, true_or, or_true, not_true_eq_false, not_false_eq_true, ne_eq, forall_const, true_implies, false_implies, implies_true] at hpre tx1 g2 tx3 tx4 w8 hr5 gr5 w10 tx11 w15 hr12 gr12 w17 ⊢) <;> omega) (by (try simp only [i_lt, i_le, i_eq, Int32.toInt_toInt64, Int32.reduceToInt, Int64.reduceToInt, true_and, and_true, false_and, and_false, false_or, or_false, true_or, or_true, not_true_eq_false, not_false_eq_true, ne_eq, forall_const, true_implies, false_implies, implies_true] at hpre tx1 g2 tx3 tx4 w8 hr5 gr5 w10 tx11 w15 hr12 gr12 w17 ⊢) <;> omega)
  refine lv_aload_n hx hb dX12_readRoom_52 rfl (lv_at hl 1 rfl) ?_
  refine va_ldcS (own := RX12) (tx := "day") (q := tt.1 59) hx hb hown (hE.2.1 (RX12, 229, "day", 59) (by decide +kernel)) dX12_readRoom_53 ?_
  refine lv_iconst (v := 0) hx hb dX12_readRoom_55 (by decide) ?_
  refine lv_sipush (v := 999) hx hb dX12_readRoom_56 (by decide) ?_
  refine xiV (C := RX12) (As := [.ref (tt.1 59), .int 0, .int 999]) (rest := [.int x18, .ref a14]) ⟨hx, hb, hml, hown, hts⟩ (fun sz => t_X12_told l D k tt u16 hu h0 m_h0 k_h0 59 (by decide) 0 999 sz) (cwV 3 hts gX12_readRoom_X12_told rfl rfl rfl (by decide +kernel) ⟨Nat.le_of_ble_eq_true rfl, Nat.le_of_ble_eq_true rfl⟩) hP hK hD hN hE hS hA (precv hK hP m_h0 (cF12 k_h0) rfl) rfl hl.1 rfl (Nat.le_of_ble_eq_true rfl) dX12_readRoom_59 ⟨Nat.le_of_ble_eq_true rfl, Nat.le_of_ble_eq_true rfl⟩ (fun r19 u20 H locs hqu20 hP hD hS => ?_)
  obtain ⟨hu, hxu20, z21, hr19⟩ := hqu20
  have hkl := KL.trans hkl hp z21.toL
  have hp := PX.trans hp hxu20
  have w22 : (u20.2.2.1 a14 3).toInt = (u16.2.2.1 a14 3).toInt := congrArg Int32.toInt (z21 a14 m_a14 k_a14 3)
  have gr19 : 0 ≤ r19.toInt ∧ r19.toInt ≤ 999 := by (try simp only [i_lt, i_le, i_eq, Int32.toInt_toInt64, Int32.reduceToInt, Int64.reduceToInt, true_and, and_true, false_and, and_false, false_or, or_false, true_or, or_true, not_true_eq_false, not_false_eq_true, ne_eq, forall_const, true_implies, false_implies, implies_true] at hpre tx1 g2 tx3 tx4 w8 hr5 gr5 w10 tx11 w15 hr12 gr12 w17 tx18 w22 hr19 ⊢) <;> omega
  have k_h0 : u20.2.1 h0 = 12 := (hp h0 m0_h0).2.1.trans k0_h0
  have m_h0 : h0 ∈ u20.1 := (hp h0 m0_h0).1
  have k_a14 : u20.2.1 a14 = 51 := (hp a14 m0_a14).2.1.trans k0_a14
  have m_a14 : a14 ∈ u20.1 := (hp a14 m0_a14).1
  refine pasI (u' := pSI u20 a14 (x18.toNatClampNeg) r19) hx hb hK hP hD hS m_a14 (cF51 k_a14) 1 rfl (vp_in_iff.mpr (by (try simp only [i_lt, i_le, i_eq, Int32.toInt_toInt64, Int32.reduceToInt, Int64.reduceToInt, true_and, and_true, false_and, and_false, false_or, or_false, true_or, or_true, not_true_eq_false, not_false_eq_true, ne_eq, forall_const, true_implies, false_implies, implies_true] at hpre tx1 g2 tx3 tx4 w8 hr5 gr5 w10 tx11 w15 hr12 gr12 w17 tx18 w22 hr19 gr19 ⊢) <;> omega)) rfl (sF51 k_a14 _ _) dX12_readRoom_62 (fun H locs hP hD hS => ?_)
  have hu := WT.setI (a := a14) (s := (x18.toNatClampNeg)) (v := r19) hu (by rw [k_a14]; exact (show okW (x18.toNatClampNeg) r19 from by unfold okW; have z := cl_int (x := x18) (by (try simp only [i_lt, i_le, i_eq, Int32.toInt_toInt64, Int32.reduceToInt, Int64.reduceToInt, true_and, and_true, false_and, and_false, false_or, or_false, true_or, or_true, not_true_eq_false, not_false_eq_true, ne_eq, forall_const, true_implies, false_implies, implies_true] at hpre tx1 g2 tx3 tx4 w8 hr5 gr5 w10 tx11 w15 hr12 gr12 w17 tx18 w22 hr19 gr19 ⊢) <;> omega); (try simp only [i_lt, i_le, i_eq, Int32.toInt_toInt64, Int32.reduceToInt, Int64.reduceToInt, true_and, and_true, false_and, and_false, false_or, or_false, true_or, or_true, not_true_eq_false, not_false_eq_true, ne_eq, forall_const, true_implies, false_implies, implies_true] at hpre tx1 g2 tx3 tx4 w8 hr5 gr5 w10 tx11 w15 hr12 gr12 w17 tx18 w22 hr19 gr19 z ⊢) <;> omega))
  have hkl := KL.setF (a := a14) (s := (x18.toNatClampNeg)) (v := r19) hkl (by have z := cl_int (x := x18) (by (try simp only [i_lt, i_le, i_eq, Int32.toInt_toInt64, Int32.reduceToInt, Int64.reduceToInt, true_and, and_true, false_and, and_false, false_or, or_false, true_or, or_true, not_true_eq_false, not_false_eq_true, ne_eq, forall_const, true_implies, false_implies, implies_true] at hpre tx1 g2 tx3 tx4 w8 hr5 gr5 w10 tx11 w15 hr12 gr12 w17 tx18 w22 hr19 gr19 ⊢) <;> omega); (try simp only [i_lt, i_le, i_eq, Int32.toInt_toInt64, Int32.reduceToInt, Int64.reduceToInt, true_and, and_true, false_and, and_false, false_or, or_false, true_or, or_true, not_true_eq_false, not_false_eq_true, ne_eq, forall_const, true_implies, false_implies, implies_true] at hpre tx1 g2 tx3 tx4 w8 hr5 gr5 w10 tx11 w15 hr12 gr12 w17 tx18 w22 hr19 gr19 z ⊢) <;> omega)
  have hp := PX.setI (a := a14) (s := (x18.toNatClampNeg)) (v := r19) hp (by rw [k_a14]; decide)
  obtain ⟨u23, hu23⟩ : ∃ z, z = pSI u20 a14 (x18.toNatClampNeg) r19 := ⟨_, rfl⟩
  rw [← hu23] at hP hD hu hp hkl
  have w24 : (u23.2.2.1 a14 3).toInt = (u20.2.2.1 a14 3).toInt := by rw [hu23]; exact congrArg Int32.toInt (if_neg (fun q => by have y := q.2; have z := cl_int (x := x18) (by (try simp only [i_lt, i_le, i_eq, Int32.toInt_toInt64, Int32.reduceToInt, Int64.reduceToInt, true_and, and_true, false_and, and_false, false_or, or_false, true_or, or_true, not_true_eq_false, not_false_eq_true, ne_eq, forall_const, true_implies, false_implies, implies_true] at hpre tx1 g2 tx3 tx4 w8 hr5 gr5 w10 tx11 w15 hr12 gr12 w17 tx18 w22 hr19 gr19 ⊢) <;> omega); (try simp only [i_lt, i_le, i_eq, Int32.toInt_toInt64, Int32.reduceToInt, Int64.reduceToInt, true_and, and_true, false_and, and_false, false_or, or_false, true_or, or_true, not_true_eq_false, not_false_eq_true, ne_eq, forall_const, true_implies, false_implies, implies_true] at hpre tx1 g2 tx3 tx4 w8 hr5 gr5 w10 tx11 w15 hr12 gr12 w17 tx18 w22 hr19 gr19 y z ⊢) <;> omega))
  refine lv_aload_n hx hb dX12_readRoom_63 rfl (lv_at hl 1 rfl) ?_
  have k_h0 : u23.2.1 h0 = 12 := (hp h0 m0_h0).2.1.trans k0_h0
  have m_h0 : h0 ∈ u23.1 := (hp h0 m0_h0).1
  have k_a14 : u23.2.1 a14 = 51 := (hp a14 m0_a14).2.1.trans k0_a14
  have m_a14 : a14 ∈ u23.1 := (hp a14 m0_a14).1
  refine pget (ci := 12) (v := va_rf (u23.2.2.2.2 h0 14)) (C := RX12) (T := TX12) (N := 34) hx hb hts i_X12 hown hK hP m_h0 (cF12 k_h0) rfl 14 (by decide) (hts (.fieldLink RX12 34 "BellowsRowModel" "fresh" "[I") (by decide +kernel)) (fun _ h9 => h9) rfl dX12_readRoom_64 ?_
  refine W.eq (g2 := F0 m 67 ls [.ref a14]) (by rw [(((hp h0 m0_h0).2.2.2.2.2.1 k0_h0 14).trans q0_14)]; rfl) ?_
  refine lv_iload_n hx hb dX12_readRoom_67 rfl (lv_at hl 0 rfl) ?_
  refine lv_iconst (v := 3) hx hb dX12_readRoom_68 (by decide) ?_
  refine lv_iadd hx hb dX12_readRoom_69 ?_
  refine lv_topi (fun x25 ex25 => ?_)
  have tx25 : x25.toInt = x4.toInt + (3 : Int32).toInt := by rw [ex25]; exact i_add (by (try simp only [i_lt, i_le, i_eq, Int32.toInt_toInt64, Int32.reduceToInt, Int64.reduceToInt, true_and, and_true, false_and, and_false, false_or, or_false, true_or, or_true, not_true_eq_false, not_false_eq_true, ne_eq, forall_const, true_implies, false_implies, implies_true] at hpre tx1 g2 tx3 tx4 w8 hr5 gr5 w10 tx11 w15 hr12 gr12 w17 tx18 w22 hr19 gr19 w24 ⊢) <;> omega) (by (try simp only [i_lt, i_le, i_eq, Int32.toInt_toInt64, Int32.reduceToInt, Int64.reduceToInt, true_and, and_true, false_and, and_false, false_or, or_false, true_or, or_true, not_true_eq_false, not_false_eq_true, ne_eq, forall_const, true_implies, false_implies, implies_true] at hpre tx1 g2 tx3 tx4 w8 hr5 gr5 w10 tx11 w15 hr12 gr12 w17 tx18 w22 hr19 gr19 w24 ⊢) <;> omega)
  refine lv_aload_n hx hb dX12_readRoom_70 rfl (lv_at hl 1 rfl) ?_
  refine va_ldcS (own := RX12) (tx := "night") (q := tt.1 60) hx hb hown (hE.2.1 (RX12, 231, "night", 60) (by decide +kernel)) dX12_readRoom_71 ?_
  refine lv_iconst (v := 0) hx hb dX12_readRoom_73 (by decide) ?_
  refine lv_sipush (v := 999) hx hb dX12_readRoom_74 (by decide) ?_
  refine xiV (C := RX12) (As := [.ref (tt.1 60), .int 0, .int 999]) (rest := [.int x25, .ref a14]) ⟨hx, hb, hml, hown, hts⟩ (fun sz => t_X12_told l D k tt u23 hu h0 m_h0 k_h0 60 (by decide) 0 999 sz) (cwV 3 hts gX12_readRoom_X12_told rfl rfl rfl (by decide +kernel) ⟨Nat.le_of_ble_eq_true rfl, Nat.le_of_ble_eq_true rfl⟩) hP hK hD hN hE hS hA (precv hK hP m_h0 (cF12 k_h0) rfl) rfl hl.1 rfl (Nat.le_of_ble_eq_true rfl) dX12_readRoom_77 ⟨Nat.le_of_ble_eq_true rfl, Nat.le_of_ble_eq_true rfl⟩ (fun r26 u27 H locs hqu27 hP hD hS => ?_)
  obtain ⟨hu, hxu27, z28, hr26⟩ := hqu27
  have hkl := KL.trans hkl hp z28.toL
  have hp := PX.trans hp hxu27
  have w29 : (u27.2.2.1 a14 3).toInt = (u23.2.2.1 a14 3).toInt := congrArg Int32.toInt (z28 a14 m_a14 k_a14 3)
  have gr26 : 0 ≤ r26.toInt ∧ r26.toInt ≤ 999 := by (try simp only [i_lt, i_le, i_eq, Int32.toInt_toInt64, Int32.reduceToInt, Int64.reduceToInt, true_and, and_true, false_and, and_false, false_or, or_false, true_or, or_true, not_true_eq_false, not_false_eq_true, ne_eq, forall_const, true_implies, false_implies, implies_true] at hpre tx1 g2 tx3 tx4 w8 hr5 gr5 w10 tx11 w15 hr12 gr12 w17 tx18 w22 hr19 gr19 w24 tx25 w29 hr26 ⊢) <;> omega
  have k_h0 : u27.2.1 h0 = 12 := (hp h0 m0_h0).2.1.trans k0_h0
  have m_h0 : h0 ∈ u27.1 := (hp h0 m0_h0).1
  have k_a14 : u27.2.1 a14 = 51 := (hp a14 m0_a14).2.1.trans k0_a14
  have m_a14 : a14 ∈ u27.1 := (hp a14 m0_a14).1
  refine pasI (u' := pSI u27 a14 (x25.toNatClampNeg) r26) hx hb hK hP hD hS m_a14 (cF51 k_a14) 1 rfl (vp_in_iff.mpr (by (try simp only [i_lt, i_le, i_eq, Int32.toInt_toInt64, Int32.reduceToInt, Int64.reduceToInt, true_and, and_true, false_and, and_false, false_or, or_false, true_or, or_true, not_true_eq_false, not_false_eq_true, ne_eq, forall_const, true_implies, false_implies, implies_true] at hpre tx1 g2 tx3 tx4 w8 hr5 gr5 w10 tx11 w15 hr12 gr12 w17 tx18 w22 hr19 gr19 w24 tx25 w29 hr26 gr26 ⊢) <;> omega)) rfl (sF51 k_a14 _ _) dX12_readRoom_80 (fun H locs hP hD hS => ?_)
  have hu := WT.setI (a := a14) (s := (x25.toNatClampNeg)) (v := r26) hu (by rw [k_a14]; exact (show okW (x25.toNatClampNeg) r26 from by unfold okW; have z := cl_int (x := x25) (by (try simp only [i_lt, i_le, i_eq, Int32.toInt_toInt64, Int32.reduceToInt, Int64.reduceToInt, true_and, and_true, false_and, and_false, false_or, or_false, true_or, or_true, not_true_eq_false, not_false_eq_true, ne_eq, forall_const, true_implies, false_implies, implies_true] at hpre tx1 g2 tx3 tx4 w8 hr5 gr5 w10 tx11 w15 hr12 gr12 w17 tx18 w22 hr19 gr19 w24 tx25 w29 hr26 gr26 ⊢) <;> omega); (try simp only [i_lt, i_le, i_eq, Int32.toInt_toInt64, Int32.reduceToInt, Int64.reduceToInt, true_and, and_true, false_and, and_false, false_or, or_false, true_or, or_true, not_true_eq_false, not_false_eq_true, ne_eq, forall_const, true_implies, false_implies, implies_true] at hpre tx1 g2 tx3 tx4 w8 hr5 gr5 w10 tx11 w15 hr12 gr12 w17 tx18 w22 hr19 gr19 w24 tx25 w29 hr26 gr26 z ⊢) <;> omega))
  have hkl := KL.setF (a := a14) (s := (x25.toNatClampNeg)) (v := r26) hkl (by have z := cl_int (x := x25) (by (try simp only [i_lt, i_le, i_eq, Int32.toInt_toInt64, Int32.reduceToInt, Int64.reduceToInt, true_and, and_true, false_and, and_false, false_or, or_false, true_or, or_true, not_true_eq_false, not_false_eq_true, ne_eq, forall_const, true_implies, false_implies, implies_true] at hpre tx1 g2 tx3 tx4 w8 hr5 gr5 w10 tx11 w15 hr12 gr12 w17 tx18 w22 hr19 gr19 w24 tx25 w29 hr26 gr26 ⊢) <;> omega); (try simp only [i_lt, i_le, i_eq, Int32.toInt_toInt64, Int32.reduceToInt, Int64.reduceToInt, true_and, and_true, false_and, and_false, false_or, or_false, true_or, or_true, not_true_eq_false, not_false_eq_true, ne_eq, forall_const, true_implies, false_implies, implies_true] at hpre tx1 g2 tx3 tx4 w8 hr5 gr5 w10 tx11 w15 hr12 gr12 w17 tx18 w22 hr19 gr19 w24 tx25 w29 hr26 gr26 z ⊢) <;> omega)
  have hp := PX.setI (a := a14) (s := (x25.toNatClampNeg)) (v := r26) hp (by rw [k_a14]; decide)
  obtain ⟨u30, hu30⟩ : ∃ z, z = pSI u27 a14 (x25.toNatClampNeg) r26 := ⟨_, rfl⟩
  rw [← hu30] at hP hD hu hp hkl
  have w31 : (u30.2.2.1 a14 3).toInt = (u27.2.2.1 a14 3).toInt := by rw [hu30]; exact congrArg Int32.toInt (if_neg (fun q => by have y := q.2; have z := cl_int (x := x25) (by (try simp only [i_lt, i_le, i_eq, Int32.toInt_toInt64, Int32.reduceToInt, Int64.reduceToInt, true_and, and_true, false_and, and_false, false_or, or_false, true_or, or_true, not_true_eq_false, not_false_eq_true, ne_eq, forall_const, true_implies, false_implies, implies_true] at hpre tx1 g2 tx3 tx4 w8 hr5 gr5 w10 tx11 w15 hr12 gr12 w17 tx18 w22 hr19 gr19 w24 tx25 w29 hr26 gr26 ⊢) <;> omega); (try simp only [i_lt, i_le, i_eq, Int32.toInt_toInt64, Int32.reduceToInt, Int64.reduceToInt, true_and, and_true, false_and, and_false, false_or, or_false, true_or, or_true, not_true_eq_false, not_false_eq_true, ne_eq, forall_const, true_implies, false_implies, implies_true] at hpre tx1 g2 tx3 tx4 w8 hr5 gr5 w10 tx11 w15 hr12 gr12 w17 tx18 w22 hr19 gr19 w24 tx25 w29 hr26 gr26 y z ⊢) <;> omega))
  refine lv_aload_n hx hb dX12_readRoom_81 rfl (lv_at hl 1 rfl) ?_
  have k_h0 : u30.2.1 h0 = 12 := (hp h0 m0_h0).2.1.trans k0_h0
  have m_h0 : h0 ∈ u30.1 := (hp h0 m0_h0).1
  have k_a14 : u30.2.1 a14 = 51 := (hp a14 m0_a14).2.1.trans k0_a14
  have m_a14 : a14 ∈ u30.1 := (hp a14 m0_a14).1
  refine pget (ci := 12) (v := va_rf (u30.2.2.2.2 h0 14)) (C := RX12) (T := TX12) (N := 34) hx hb hts i_X12 hown hK hP m_h0 (cF12 k_h0) rfl 14 (by decide) (hts (.fieldLink RX12 34 "BellowsRowModel" "fresh" "[I") (by decide +kernel)) (fun _ h9 => h9) rfl dX12_readRoom_82 ?_
  refine W.eq (g2 := F0 m 85 ls [.ref a14]) (by rw [(((hp h0 m0_h0).2.2.2.2.2.1 k0_h0 14).trans q0_14)]; rfl) ?_
  refine lv_iload_n hx hb dX12_readRoom_85 rfl (lv_at hl 0 rfl) ?_
  refine lv_iconst (v := 4) hx hb dX12_readRoom_86 (by decide) ?_
  refine lv_iadd hx hb dX12_readRoom_87 ?_
  refine lv_topi (fun x32 ex32 => ?_)
  have tx32 : x32.toInt = x4.toInt + (4 : Int32).toInt := by rw [ex32]; exact i_add (by (try simp only [i_lt, i_le, i_eq, Int32.toInt_toInt64, Int32.reduceToInt, Int64.reduceToInt, true_and, and_true, false_and, and_false, false_or, or_false, true_or, or_true, not_true_eq_false, not_false_eq_true, ne_eq, forall_const, true_implies, false_implies, implies_true] at hpre tx1 g2 tx3 tx4 w8 hr5 gr5 w10 tx11 w15 hr12 gr12 w17 tx18 w22 hr19 gr19 w24 tx25 w29 hr26 gr26 w31 ⊢) <;> omega) (by (try simp only [i_lt, i_le, i_eq, Int32.toInt_toInt64, Int32.reduceToInt, Int64.reduceToInt, true_and, and_true, false_and, and_false, false_or, or_false, true_or, or_true, not_true_eq_false, not_false_eq_true, ne_eq, forall_const, true_implies, false_implies, implies_true] at hpre tx1 g2 tx3 tx4 w8 hr5 gr5 w10 tx11 w15 hr12 gr12 w17 tx18 w22 hr19 gr19 w24 tx25 w29 hr26 gr26 w31 ⊢) <;> omega)
  refine lv_aload_n hx hb dX12_readRoom_88 rfl (lv_at hl 1 rfl) ?_
  refine va_ldcS (own := RX12) (tx := "flame") (q := tt.1 61) hx hb hown (hE.2.1 (RX12, 233, "flame", 61) (by decide +kernel)) dX12_readRoom_89 ?_
  refine xiV (C := RX12) (As := [.ref (tt.1 61)]) (rest := [.int x32, .ref a14]) ⟨hx, hb, hml, hown, hts⟩ (fun sz => t_X12_takes l D k tt u30 hu h0 m_h0 k_h0 61 (by decide) sz) (cwV 1 hts gX12_readRoom_X12_takes rfl rfl rfl (by decide +kernel) ⟨Nat.le_of_ble_eq_true rfl, Nat.le_of_ble_eq_true rfl⟩) hP hK hD hN hE hS hA (precv hK hP m_h0 (cF12 k_h0) rfl) rfl hl.1 rfl (Nat.le_of_ble_eq_true rfl) dX12_readRoom_91 ⟨Nat.le_of_ble_eq_true rfl, Nat.le_of_ble_eq_true rfl⟩ (fun r33 u34 H locs hqu34 hP hD hS => ?_)
  obtain ⟨hu, hxu34, z35, hr33⟩ := hqu34
  rcases hr33 with ⟨er33, hnr33, sameu34⟩ | ⟨er33, hir33, har33⟩
  · have sameu34 := sameu34.symm
    subst sameu34
    refine lv_if_eq (tgt := 101) hx hb dX12_readRoom_94 (by decide) (fun _ => ?_) (fun h => absurd (by (try simp only [i_lt, i_le, i_eq, Int32.toInt_toInt64, Int32.reduceToInt, Int64.reduceToInt, true_and, and_true, false_and, and_false, false_or, or_false, true_or, or_true, not_true_eq_false, not_false_eq_true, ne_eq, forall_const, true_implies, false_implies, implies_true] at hpre tx1 g2 tx3 tx4 w8 hr5 gr5 w10 tx11 w15 hr12 gr12 w17 tx18 w22 hr19 gr19 w24 tx25 w29 hr26 gr26 w31 tx32 er33 ⊢) <;> omega) h)
    refine lv_iconst (v := 0) hx hb dX12_readRoom_101 (by decide) ?_
    refine pasI (u' := pSI u30 a14 (x32.toNatClampNeg) 0) hx hb hK hP hD hS m_a14 (cF51 k_a14) 1 rfl (vp_in_iff.mpr (by (try simp only [i_lt, i_le, i_eq, Int32.toInt_toInt64, Int32.reduceToInt, Int64.reduceToInt, true_and, and_true, false_and, and_false, false_or, or_false, true_or, or_true, not_true_eq_false, not_false_eq_true, ne_eq, forall_const, true_implies, false_implies, implies_true] at hpre tx1 g2 tx3 tx4 w8 hr5 gr5 w10 tx11 w15 hr12 gr12 w17 tx18 w22 hr19 gr19 w24 tx25 w29 hr26 gr26 w31 tx32 er33 ⊢) <;> omega)) rfl (sF51 k_a14 _ _) dX12_readRoom_102 (fun H locs hP hD hS => ?_)
    have hu := WT.setI (a := a14) (s := (x32.toNatClampNeg)) (v := 0) hu (by rw [k_a14]; exact (show okW (x32.toNatClampNeg) (0 : Int32) from by unfold okW; have z := cl_int (x := x32) (by (try simp only [i_lt, i_le, i_eq, Int32.toInt_toInt64, Int32.reduceToInt, Int64.reduceToInt, true_and, and_true, false_and, and_false, false_or, or_false, true_or, or_true, not_true_eq_false, not_false_eq_true, ne_eq, forall_const, true_implies, false_implies, implies_true] at hpre tx1 g2 tx3 tx4 w8 hr5 gr5 w10 tx11 w15 hr12 gr12 w17 tx18 w22 hr19 gr19 w24 tx25 w29 hr26 gr26 w31 tx32 er33 ⊢) <;> omega); (try simp only [i_lt, i_le, i_eq, Int32.toInt_toInt64, Int32.reduceToInt, Int64.reduceToInt, true_and, and_true, false_and, and_false, false_or, or_false, true_or, or_true, not_true_eq_false, not_false_eq_true, ne_eq, forall_const, true_implies, false_implies, implies_true] at hpre tx1 g2 tx3 tx4 w8 hr5 gr5 w10 tx11 w15 hr12 gr12 w17 tx18 w22 hr19 gr19 w24 tx25 w29 hr26 gr26 w31 tx32 er33 z ⊢) <;> omega))
    have hkl := KL.setF (a := a14) (s := (x32.toNatClampNeg)) (v := 0) hkl (by have z := cl_int (x := x32) (by (try simp only [i_lt, i_le, i_eq, Int32.toInt_toInt64, Int32.reduceToInt, Int64.reduceToInt, true_and, and_true, false_and, and_false, false_or, or_false, true_or, or_true, not_true_eq_false, not_false_eq_true, ne_eq, forall_const, true_implies, false_implies, implies_true] at hpre tx1 g2 tx3 tx4 w8 hr5 gr5 w10 tx11 w15 hr12 gr12 w17 tx18 w22 hr19 gr19 w24 tx25 w29 hr26 gr26 w31 tx32 er33 ⊢) <;> omega); (try simp only [i_lt, i_le, i_eq, Int32.toInt_toInt64, Int32.reduceToInt, Int64.reduceToInt, true_and, and_true, false_and, and_false, false_or, or_false, true_or, or_true, not_true_eq_false, not_false_eq_true, ne_eq, forall_const, true_implies, false_implies, implies_true] at hpre tx1 g2 tx3 tx4 w8 hr5 gr5 w10 tx11 w15 hr12 gr12 w17 tx18 w22 hr19 gr19 w24 tx25 w29 hr26 gr26 w31 tx32 er33 z ⊢) <;> omega)
    have hp := PX.setI (a := a14) (s := (x32.toNatClampNeg)) (v := 0) hp (by rw [k_a14]; decide)
    obtain ⟨u36, hu36⟩ : ∃ z, z = pSI u30 a14 (x32.toNatClampNeg) 0 := ⟨_, rfl⟩
    rw [← hu36] at hP hD hu hp hkl
    have w37 : (u36.2.2.1 a14 3).toInt = (u30.2.2.1 a14 3).toInt := by rw [hu36]; exact congrArg Int32.toInt (if_neg (fun q => by have y := q.2; have z := cl_int (x := x32) (by (try simp only [i_lt, i_le, i_eq, Int32.toInt_toInt64, Int32.reduceToInt, Int64.reduceToInt, true_and, and_true, false_and, and_false, false_or, or_false, true_or, or_true, not_true_eq_false, not_false_eq_true, ne_eq, forall_const, true_implies, false_implies, implies_true] at hpre tx1 g2 tx3 tx4 w8 hr5 gr5 w10 tx11 w15 hr12 gr12 w17 tx18 w22 hr19 gr19 w24 tx25 w29 hr26 gr26 w31 tx32 er33 ⊢) <;> omega); (try simp only [i_lt, i_le, i_eq, Int32.toInt_toInt64, Int32.reduceToInt, Int64.reduceToInt, true_and, and_true, false_and, and_false, false_or, or_false, true_or, or_true, not_true_eq_false, not_false_eq_true, ne_eq, forall_const, true_implies, false_implies, implies_true] at hpre tx1 g2 tx3 tx4 w8 hr5 gr5 w10 tx11 w15 hr12 gr12 w17 tx18 w22 hr19 gr19 w24 tx25 w29 hr26 gr26 w31 tx32 er33 y z ⊢) <;> omega))
    refine lv_aload_n hx hb dX12_readRoom_103 rfl (lv_at hl 1 rfl) ?_
    have k_h0 : u36.2.1 h0 = 12 := (hp h0 m0_h0).2.1.trans k0_h0
    have m_h0 : h0 ∈ u36.1 := (hp h0 m0_h0).1
    have k_a14 : u36.2.1 a14 = 51 := (hp a14 m0_a14).2.1.trans k0_a14
    have m_a14 : a14 ∈ u36.1 := (hp a14 m0_a14).1
    refine rvi (C := RX12) (As := []) (rest := []) ⟨hx, hb, hml, hown, hts⟩ (t_X12_good l D k u36 hu h0 m_h0 k_h0 ) (cwV 0 hts gX12_readRoom_X12_good rfl rfl rfl (by decide +kernel) ⟨Nat.le_of_ble_eq_true rfl, Nat.le_of_ble_eq_true rfl⟩) hP hK (precv hK hP m_h0 (cF12 k_h0) rfl) rfl hl.1 rfl (Nat.le_of_ble_eq_true rfl) dX12_readRoom_104 ⟨Nat.le_of_ble_eq_true rfl, Nat.le_of_ble_eq_true rfl⟩ (fun r38 hr38 => ?_)
    refine lv_if_eq (tgt := 120) hx hb dX12_readRoom_107 (by decide) (fun c39 => ?_) (fun c39 => ?_)
    · have eb40 : r38.toInt = 0 := by rcases hr38 with ⟨q, -⟩ | ⟨q, -⟩; exact q; (exact absurd (c39) (fun w => by rw [w] at q; exact absurd q (by decide)))
      have fb40 : (u36.2.2.1 h0 12).toInt ≠ 0 := by rcases hr38 with ⟨q, r⟩ | ⟨q, r⟩; exact r; exact absurd q (by omega)
      clear hr38
      exact W.vret hx hb hr (fun t ht hW => ⟨⟨u36, rfl, ⟨hu, hp, hkl, trivial⟩, by rw [ht]; exact hP, hD⟩, hS.F ht⟩) hS.2.2 dX12_readRoom_120
    · have eb41 : r38.toInt = 1 := by rcases hr38 with ⟨q, -⟩ | ⟨q, -⟩; exact absurd (i_eq.mpr q) c39; exact q
      have fb41 : (u36.2.2.1 h0 12).toInt = 0 := by rcases hr38 with ⟨q, r⟩ | ⟨q, r⟩; exact absurd q (by omega); exact r
      clear hr38
      refine lv_aload_n hx hb dX12_readRoom_110 rfl (lv_at hl 1 rfl) ?_
      refine pget (ci := 12) (v := va_rf (u36.2.2.2.2 h0 14)) (C := RX12) (T := TX12) (N := 34) hx hb hts i_X12 hown hK hP m_h0 (cF12 k_h0) rfl 14 (by decide) (hts (.fieldLink RX12 34 "BellowsRowModel" "fresh" "[I") (by decide +kernel)) (fun _ h9 => h9) rfl dX12_readRoom_111 ?_
      refine W.eq (g2 := F0 m 114 ls [.ref a14]) (by rw [(((hp h0 m0_h0).2.2.2.2.2.1 k0_h0 14).trans q0_14)]; rfl) ?_
      refine lv_iconst (v := 3) hx hb dX12_readRoom_114 (by decide) ?_
      refine lv_dup2_11 hx hb dX12_readRoom_115 rfl rfl ?_
      refine palI hx hb hK hP m_a14 (cF51 k_a14) 1 rfl (vp_in_iff.mpr (by decide)) dX12_readRoom_116 ?_
      refine lv_topi (fun x42 ex42 => ?_)
      have tx42 : x42.toInt = (u36.2.2.1 a14 3).toInt := congrArg Int32.toInt ex42
      have g43 : 0 ≤ x42.toInt ∧ x42.toInt ≤ 12 := by have g : okI (u36.2.1 a14) (3) (u36.2.2.1 a14 (3)) := (hu a14 m_a14).2.2.2 (3); rw [k_a14, ← (show x42 = u36.2.2.1 a14 (3) from ex42)] at g; have g : okW (3) x42 := g; unfold okW at g; (try simp only [i_lt, i_le, i_eq, Int32.toInt_toInt64, Int32.reduceToInt, Int64.reduceToInt, true_and, and_true, false_and, and_false, false_or, or_false, true_or, or_true, not_true_eq_false, not_false_eq_true, ne_eq, forall_const, true_implies, false_implies, implies_true] at hpre tx1 g2 tx3 tx4 w8 hr5 gr5 w10 tx11 w15 hr12 gr12 w17 tx18 w22 hr19 gr19 w24 tx25 w29 hr26 gr26 w31 tx32 er33 w37 eb41 fb41 tx42 g ⊢) <;> omega
      refine lv_iconst (v := 1) hx hb dX12_readRoom_117 (by decide) ?_
      refine lv_iadd hx hb dX12_readRoom_118 ?_
      refine lv_topi (fun x44 ex44 => ?_)
      have tx44 : x44.toInt = x42.toInt + (1 : Int32).toInt := by rw [ex44]; exact i_add (by (try simp only [i_lt, i_le, i_eq, Int32.toInt_toInt64, Int32.reduceToInt, Int64.reduceToInt, true_and, and_true, false_and, and_false, false_or, or_false, true_or, or_true, not_true_eq_false, not_false_eq_true, ne_eq, forall_const, true_implies, false_implies, implies_true] at hpre tx1 g2 tx3 tx4 w8 hr5 gr5 w10 tx11 w15 hr12 gr12 w17 tx18 w22 hr19 gr19 w24 tx25 w29 hr26 gr26 w31 tx32 er33 w37 eb41 fb41 tx42 g43 ⊢) <;> omega) (by (try simp only [i_lt, i_le, i_eq, Int32.toInt_toInt64, Int32.reduceToInt, Int64.reduceToInt, true_and, and_true, false_and, and_false, false_or, or_false, true_or, or_true, not_true_eq_false, not_false_eq_true, ne_eq, forall_const, true_implies, false_implies, implies_true] at hpre tx1 g2 tx3 tx4 w8 hr5 gr5 w10 tx11 w15 hr12 gr12 w17 tx18 w22 hr19 gr19 w24 tx25 w29 hr26 gr26 w31 tx32 er33 w37 eb41 fb41 tx42 g43 ⊢) <;> omega)
      refine pasI (u' := pSI u36 a14 3 x44) hx hb hK hP hD hS m_a14 (cF51 k_a14) 1 rfl (vp_in_iff.mpr (by decide)) rfl (sF51 k_a14 _ _) dX12_readRoom_119 (fun H locs hP hD hS => ?_)
      have hu := WT.setI (a := a14) (s := 3) (v := x44) hu (by rw [k_a14]; exact (show okW 3 x44 from by unfold okW; (try simp only [i_lt, i_le, i_eq, Int32.toInt_toInt64, Int32.reduceToInt, Int64.reduceToInt, true_and, and_true, false_and, and_false, false_or, or_false, true_or, or_true, not_true_eq_false, not_false_eq_true, ne_eq, forall_const, true_implies, false_implies, implies_true] at hpre tx1 g2 tx3 tx4 w8 hr5 gr5 w10 tx11 w15 hr12 gr12 w17 tx18 w22 hr19 gr19 w24 tx25 w29 hr26 gr26 w31 tx32 er33 w37 eb41 fb41 tx42 g43 tx44 ⊢) <;> omega))
      have hkl := KL.setF (a := a14) (s := 3) (v := x44) hkl (by (try simp only [i_lt, i_le, i_eq, Int32.toInt_toInt64, Int32.reduceToInt, Int64.reduceToInt, true_and, and_true, false_and, and_false, false_or, or_false, true_or, or_true, not_true_eq_false, not_false_eq_true, ne_eq, forall_const, true_implies, false_implies, implies_true] at hpre tx1 g2 tx3 tx4 w8 hr5 gr5 w10 tx11 w15 hr12 gr12 w17 tx18 w22 hr19 gr19 w24 tx25 w29 hr26 gr26 w31 tx32 er33 w37 eb41 fb41 tx42 g43 tx44 ⊢) <;> omega)
      have hp := PX.setI (a := a14) (s := 3) (v := x44) hp (by rw [k_a14]; decide)
      obtain ⟨u45, hu45⟩ : ∃ z, z = pSI u36 a14 3 x44 := ⟨_, rfl⟩
      rw [← hu45] at hP hD hu hp hkl
      have w46 : (u45.2.2.1 a14 3).toInt = x44.toInt := by rw [hu45]; exact congrArg Int32.toInt (if_pos ⟨rfl, rfl⟩)
      exact W.vret hx hb hr (fun t ht hW => ⟨⟨u45, rfl, ⟨hu, hp, hkl, trivial⟩, by rw [ht]; exact hP, hD⟩, hS.F ht⟩) hS.2.2 dX12_readRoom_120
  · have hkl := KL.trans hkl hp z35.toL
    have hp := PX.trans hp hxu34
    have w47 : (u34.2.2.1 a14 3).toInt = (u30.2.2.1 a14 3).toInt := congrArg Int32.toInt (z35 a14 m_a14 k_a14 3)
    refine lv_if_eq (tgt := 101) hx hb dX12_readRoom_94 (by decide) (fun h => absurd h (by (try simp only [i_lt, i_le, i_eq, Int32.toInt_toInt64, Int32.reduceToInt, Int64.reduceToInt, true_and, and_true, false_and, and_false, false_or, or_false, true_or, or_true, not_true_eq_false, not_false_eq_true, ne_eq, forall_const, true_implies, false_implies, implies_true] at hpre tx1 g2 tx3 tx4 w8 hr5 gr5 w10 tx11 w15 hr12 gr12 w17 tx18 w22 hr19 gr19 w24 tx25 w29 hr26 gr26 w31 tx32 er33 har33 w47 ⊢) <;> omega)) (fun _ => ?_)
    refine lv_iconst (v := 1) hx hb dX12_readRoom_97 (by decide) ?_
    refine lv_goto (tgt := 102) hx hb dX12_readRoom_98 (by decide) ?_
    have k_h0 : u34.2.1 h0 = 12 := (hp h0 m0_h0).2.1.trans k0_h0
    have m_h0 : h0 ∈ u34.1 := (hp h0 m0_h0).1
    have k_a14 : u34.2.1 a14 = 51 := (hp a14 m0_a14).2.1.trans k0_a14
    have m_a14 : a14 ∈ u34.1 := (hp a14 m0_a14).1
    refine pasI (u' := pSI u34 a14 (x32.toNatClampNeg) 1) hx hb hK hP hD hS m_a14 (cF51 k_a14) 1 rfl (vp_in_iff.mpr (by (try simp only [i_lt, i_le, i_eq, Int32.toInt_toInt64, Int32.reduceToInt, Int64.reduceToInt, true_and, and_true, false_and, and_false, false_or, or_false, true_or, or_true, not_true_eq_false, not_false_eq_true, ne_eq, forall_const, true_implies, false_implies, implies_true] at hpre tx1 g2 tx3 tx4 w8 hr5 gr5 w10 tx11 w15 hr12 gr12 w17 tx18 w22 hr19 gr19 w24 tx25 w29 hr26 gr26 w31 tx32 er33 har33 w47 ⊢) <;> omega)) rfl (sF51 k_a14 _ _) dX12_readRoom_102 (fun H locs hP hD hS => ?_)
    have hu := WT.setI (a := a14) (s := (x32.toNatClampNeg)) (v := 1) hu (by rw [k_a14]; exact (show okW (x32.toNatClampNeg) (1 : Int32) from by unfold okW; have z := cl_int (x := x32) (by (try simp only [i_lt, i_le, i_eq, Int32.toInt_toInt64, Int32.reduceToInt, Int64.reduceToInt, true_and, and_true, false_and, and_false, false_or, or_false, true_or, or_true, not_true_eq_false, not_false_eq_true, ne_eq, forall_const, true_implies, false_implies, implies_true] at hpre tx1 g2 tx3 tx4 w8 hr5 gr5 w10 tx11 w15 hr12 gr12 w17 tx18 w22 hr19 gr19 w24 tx25 w29 hr26 gr26 w31 tx32 er33 har33 w47 ⊢) <;> omega); (try simp only [i_lt, i_le, i_eq, Int32.toInt_toInt64, Int32.reduceToInt, Int64.reduceToInt, true_and, and_true, false_and, and_false, false_or, or_false, true_or, or_true, not_true_eq_false, not_false_eq_true, ne_eq, forall_const, true_implies, false_implies, implies_true] at hpre tx1 g2 tx3 tx4 w8 hr5 gr5 w10 tx11 w15 hr12 gr12 w17 tx18 w22 hr19 gr19 w24 tx25 w29 hr26 gr26 w31 tx32 er33 har33 w47 z ⊢) <;> omega))
    have hkl := KL.setF (a := a14) (s := (x32.toNatClampNeg)) (v := 1) hkl (by have z := cl_int (x := x32) (by (try simp only [i_lt, i_le, i_eq, Int32.toInt_toInt64, Int32.reduceToInt, Int64.reduceToInt, true_and, and_true, false_and, and_false, false_or, or_false, true_or, or_true, not_true_eq_false, not_false_eq_true, ne_eq, forall_const, true_implies, false_implies, implies_true] at hpre tx1 g2 tx3 tx4 w8 hr5 gr5 w10 tx11 w15 hr12 gr12 w17 tx18 w22 hr19 gr19 w24 tx25 w29 hr26 gr26 w31 tx32 er33 har33 w47 ⊢) <;> omega); (try simp only [i_lt, i_le, i_eq, Int32.toInt_toInt64, Int32.reduceToInt, Int64.reduceToInt, true_and, and_true, false_and, and_false, false_or, or_false, true_or, or_true, not_true_eq_false, not_false_eq_true, ne_eq, forall_const, true_implies, false_implies, implies_true] at hpre tx1 g2 tx3 tx4 w8 hr5 gr5 w10 tx11 w15 hr12 gr12 w17 tx18 w22 hr19 gr19 w24 tx25 w29 hr26 gr26 w31 tx32 er33 har33 w47 z ⊢) <;> omega)
    have hp := PX.setI (a := a14) (s := (x32.toNatClampNeg)) (v := 1) hp (by rw [k_a14]; decide)
    obtain ⟨u48, hu48⟩ : ∃ z, z = pSI u34 a14 (x32.toNatClampNeg) 1 := ⟨_, rfl⟩
    rw [← hu48] at hP hD hu hp hkl
    have w49 : (u48.2.2.1 a14 3).toInt = (u34.2.2.1 a14 3).toInt := by rw [hu48]; exact congrArg Int32.toInt (if_neg (fun q => by have y := q.2; have z := cl_int (x := x32) (by (try simp only [i_lt, i_le, i_eq, Int32.toInt_toInt64, Int32.reduceToInt, Int64.reduceToInt, true_and, and_true, false_and, and_false, false_or, or_false, true_or, or_true, not_true_eq_false, not_false_eq_true, ne_eq, forall_const, true_implies, false_implies, implies_true] at hpre tx1 g2 tx3 tx4 w8 hr5 gr5 w10 tx11 w15 hr12 gr12 w17 tx18 w22 hr19 gr19 w24 tx25 w29 hr26 gr26 w31 tx32 er33 har33 w47 ⊢) <;> omega); (try simp only [i_lt, i_le, i_eq, Int32.toInt_toInt64, Int32.reduceToInt, Int64.reduceToInt, true_and, and_true, false_and, and_false, false_or, or_false, true_or, or_true, not_true_eq_false, not_false_eq_true, ne_eq, forall_const, true_implies, false_implies, implies_true] at hpre tx1 g2 tx3 tx4 w8 hr5 gr5 w10 tx11 w15 hr12 gr12 w17 tx18 w22 hr19 gr19 w24 tx25 w29 hr26 gr26 w31 tx32 er33 har33 w47 y z ⊢) <;> omega))
    refine lv_aload_n hx hb dX12_readRoom_103 rfl (lv_at hl 1 rfl) ?_
    have k_h0 : u48.2.1 h0 = 12 := (hp h0 m0_h0).2.1.trans k0_h0
    have m_h0 : h0 ∈ u48.1 := (hp h0 m0_h0).1
    have k_a14 : u48.2.1 a14 = 51 := (hp a14 m0_a14).2.1.trans k0_a14
    have m_a14 : a14 ∈ u48.1 := (hp a14 m0_a14).1
    refine rvi (C := RX12) (As := []) (rest := []) ⟨hx, hb, hml, hown, hts⟩ (t_X12_good l D k u48 hu h0 m_h0 k_h0 ) (cwV 0 hts gX12_readRoom_X12_good rfl rfl rfl (by decide +kernel) ⟨Nat.le_of_ble_eq_true rfl, Nat.le_of_ble_eq_true rfl⟩) hP hK (precv hK hP m_h0 (cF12 k_h0) rfl) rfl hl.1 rfl (Nat.le_of_ble_eq_true rfl) dX12_readRoom_104 ⟨Nat.le_of_ble_eq_true rfl, Nat.le_of_ble_eq_true rfl⟩ (fun r50 hr50 => ?_)
    refine lv_if_eq (tgt := 120) hx hb dX12_readRoom_107 (by decide) (fun c51 => ?_) (fun c51 => ?_)
    · have eb52 : r50.toInt = 0 := by rcases hr50 with ⟨q, -⟩ | ⟨q, -⟩; exact q; (exact absurd (c51) (fun w => by rw [w] at q; exact absurd q (by decide)))
      have fb52 : (u48.2.2.1 h0 12).toInt ≠ 0 := by rcases hr50 with ⟨q, r⟩ | ⟨q, r⟩; exact r; exact absurd q (by omega)
      clear hr50
      exact W.vret hx hb hr (fun t ht hW => ⟨⟨u48, rfl, ⟨hu, hp, hkl, trivial⟩, by rw [ht]; exact hP, hD⟩, hS.F ht⟩) hS.2.2 dX12_readRoom_120
    · have eb53 : r50.toInt = 1 := by rcases hr50 with ⟨q, -⟩ | ⟨q, -⟩; exact absurd (i_eq.mpr q) c51; exact q
      have fb53 : (u48.2.2.1 h0 12).toInt = 0 := by rcases hr50 with ⟨q, r⟩ | ⟨q, r⟩; exact absurd q (by omega); exact r
      clear hr50
      refine lv_aload_n hx hb dX12_readRoom_110 rfl (lv_at hl 1 rfl) ?_
      refine pget (ci := 12) (v := va_rf (u48.2.2.2.2 h0 14)) (C := RX12) (T := TX12) (N := 34) hx hb hts i_X12 hown hK hP m_h0 (cF12 k_h0) rfl 14 (by decide) (hts (.fieldLink RX12 34 "BellowsRowModel" "fresh" "[I") (by decide +kernel)) (fun _ h9 => h9) rfl dX12_readRoom_111 ?_
      refine W.eq (g2 := F0 m 114 ls [.ref a14]) (by rw [(((hp h0 m0_h0).2.2.2.2.2.1 k0_h0 14).trans q0_14)]; rfl) ?_
      refine lv_iconst (v := 3) hx hb dX12_readRoom_114 (by decide) ?_
      refine lv_dup2_11 hx hb dX12_readRoom_115 rfl rfl ?_
      refine palI hx hb hK hP m_a14 (cF51 k_a14) 1 rfl (vp_in_iff.mpr (by decide)) dX12_readRoom_116 ?_
      refine lv_topi (fun x54 ex54 => ?_)
      have tx54 : x54.toInt = (u48.2.2.1 a14 3).toInt := congrArg Int32.toInt ex54
      have g55 : 0 ≤ x54.toInt ∧ x54.toInt ≤ 12 := by have g : okI (u48.2.1 a14) (3) (u48.2.2.1 a14 (3)) := (hu a14 m_a14).2.2.2 (3); rw [k_a14, ← (show x54 = u48.2.2.1 a14 (3) from ex54)] at g; have g : okW (3) x54 := g; unfold okW at g; (try simp only [i_lt, i_le, i_eq, Int32.toInt_toInt64, Int32.reduceToInt, Int64.reduceToInt, true_and, and_true, false_and, and_false, false_or, or_false, true_or, or_true, not_true_eq_false, not_false_eq_true, ne_eq, forall_const, true_implies, false_implies, implies_true] at hpre tx1 g2 tx3 tx4 w8 hr5 gr5 w10 tx11 w15 hr12 gr12 w17 tx18 w22 hr19 gr19 w24 tx25 w29 hr26 gr26 w31 tx32 er33 har33 w47 w49 eb53 fb53 tx54 g ⊢) <;> omega
      refine lv_iconst (v := 1) hx hb dX12_readRoom_117 (by decide) ?_
      refine lv_iadd hx hb dX12_readRoom_118 ?_
      refine lv_topi (fun x56 ex56 => ?_)
      have tx56 : x56.toInt = x54.toInt + (1 : Int32).toInt := by rw [ex56]; exact i_add (by (try simp only [i_lt, i_le, i_eq, Int32.toInt_toInt64, Int32.reduceToInt, Int64.reduceToInt, true_and, and_true, false_and, and_false, false_or, or_false, true_or, or_true, not_true_eq_false, not_false_eq_true, ne_eq, forall_const, true_implies, false_implies, implies_true] at hpre tx1 g2 tx3 tx4 w8 hr5 gr5 w10 tx11 w15 hr12 gr12 w17 tx18 w22 hr19 gr19 w24 tx25 w29 hr26 gr26 w31 tx32 er33 har33 w47 w49 eb53 fb53 tx54 g55 ⊢) <;> omega) (by (try simp only [i_lt, i_le, i_eq, Int32.toInt_toInt64, Int32.reduceToInt, Int64.reduceToInt, true_and, and_true, false_and, and_false, false_or, or_false, true_or, or_true, not_true_eq_false, not_false_eq_true, ne_eq, forall_const, true_implies, false_implies, implies_true] at hpre tx1 g2 tx3 tx4 w8 hr5 gr5 w10 tx11 w15 hr12 gr12 w17 tx18 w22 hr19 gr19 w24 tx25 w29 hr26 gr26 w31 tx32 er33 har33 w47 w49 eb53 fb53 tx54 g55 ⊢) <;> omega)
      refine pasI (u' := pSI u48 a14 3 x56) hx hb hK hP hD hS m_a14 (cF51 k_a14) 1 rfl (vp_in_iff.mpr (by decide)) rfl (sF51 k_a14 _ _) dX12_readRoom_119 (fun H locs hP hD hS => ?_)
      have hu := WT.setI (a := a14) (s := 3) (v := x56) hu (by rw [k_a14]; exact (show okW 3 x56 from by unfold okW; (try simp only [i_lt, i_le, i_eq, Int32.toInt_toInt64, Int32.reduceToInt, Int64.reduceToInt, true_and, and_true, false_and, and_false, false_or, or_false, true_or, or_true, not_true_eq_false, not_false_eq_true, ne_eq, forall_const, true_implies, false_implies, implies_true] at hpre tx1 g2 tx3 tx4 w8 hr5 gr5 w10 tx11 w15 hr12 gr12 w17 tx18 w22 hr19 gr19 w24 tx25 w29 hr26 gr26 w31 tx32 er33 har33 w47 w49 eb53 fb53 tx54 g55 tx56 ⊢) <;> omega))
      have hkl := KL.setF (a := a14) (s := 3) (v := x56) hkl (by (try simp only [i_lt, i_le, i_eq, Int32.toInt_toInt64, Int32.reduceToInt, Int64.reduceToInt, true_and, and_true, false_and, and_false, false_or, or_false, true_or, or_true, not_true_eq_false, not_false_eq_true, ne_eq, forall_const, true_implies, false_implies, implies_true] at hpre tx1 g2 tx3 tx4 w8 hr5 gr5 w10 tx11 w15 hr12 gr12 w17 tx18 w22 hr19 gr19 w24 tx25 w29 hr26 gr26 w31 tx32 er33 har33 w47 w49 eb53 fb53 tx54 g55 tx56 ⊢) <;> omega)
      have hp := PX.setI (a := a14) (s := 3) (v := x56) hp (by rw [k_a14]; decide)
      obtain ⟨u57, hu57⟩ : ∃ z, z = pSI u48 a14 3 x56 := ⟨_, rfl⟩
      rw [← hu57] at hP hD hu hp hkl
      have w58 : (u57.2.2.1 a14 3).toInt = x56.toInt := by rw [hu57]; exact congrArg Int32.toInt (if_pos ⟨rfl, rfl⟩)
      exact W.vret hx hb hr (fun t ht hW => ⟨⟨u57, rfl, ⟨hu, hp, hkl, trivial⟩, by rw [ht]; exact hP, hD⟩, hS.F ht⟩) hS.2.2 dX12_readRoom_120
set_option maxHeartbeats 4000000 in
set_option maxRecDepth 100000 in
theorem t_X12_readPerson (l : Launch) (D : va_G) (k : Nat → ClassId) (tt : TT) (u0 : PSt) (hu : WT u0) (h0 : Nat) (m_h0 : h0 ∈ u0.1) (k_h0 : u0.2.1 h0 = 12) (hpre : (u0.2.2.1 (ar u0 h0 14) 4).toInt ≤ 11) (sz : Nat) : Met l yX12_readPerson wsX12_readPerson ({ frames := 8, cells := 0, slots := 0, locals := 174 }) (PreT D k tt sz (PW k u0) [.ref h0]) (va_Qv (fun v => WT v ∧ PX u0 v ∧ KL u0 v ∧ (True)) (WB D (va_A (PW k u0) sz) (PW k)) (va_A (PW k u0) sz)) 0 0 (va_A (PW k u0) sz) := by
  refine Met.ofW (cc := cX12_readPerson) (maxL := 2) (ret := none) (by decide) rfl ?_
  intro p e s m args below meth c s₁ B hml hv
  obtain ⟨rfl, hsz, hP, hK, hD0, hN, hE0⟩ := hv
  have hx := B.exec
  have hb := B.bytes
  have hr := B.returns
  have hts := atoms_spec (ws := wsX12_readPerson) B.pre
  have hown : s.vm.findClass RX12 = some m.cls := findClass_of_methodNamed B.named
  have hlocks := B.notSynchronized
  have i_X12 : ∀ w ∈ wsX120, w ∈ wsX12_readPerson := by decide +kernel
  obtain ⟨a14, q0_14, m0_a14, k0_a14⟩ := (hu h0 m_h0).1 14 51 (by rw [k_h0]; rfl)
  have m0_h0 := m_h0
  have k0_h0 := k_h0
  have m_a14 := m0_a14
  have k_a14 := k0_a14
  subst hsz
  have hD := hD0.self (sz := s.heap.size)
  have hE := hE0
  generalize hAe : va_A (PW k u0) s.heap.size = A at hD hE ⊢
  have hA : ∀ q : Nat, s.heap.size ≤ q → A q := fun q h => by rw [← hAe]; exact Or.inr h
  have hS : va_S A s.heap s.heap [] := va_S.rf
  have hp : PX u0 u0 := PX.rf
  have hkl : KL u0 u0 := KL.rf
  simp only [ar_eq q0_14] at hpre
  have hl := lv_entry ([.ref h0]) (n := 2) (Nat.le_of_ble_eq_true rfl)
  rw [lg_entry_eq]
  generalize (lg_sl ([.ref h0]) ++ List.replicate (2 - (lg_sl ([.ref h0])).length) Slot.unset).toArray = ls at hl ⊢
  have hl : lv_has ls 2 [(0, .ref h0)] := hl
  refine lv_sipush (v := 374) hx hb dX12_readPerson_0 (by decide) ?_
  refine lv_iconst (v := 4) hx hb dX12_readPerson_3 (by decide) ?_
  refine lv_aload_n hx hb dX12_readPerson_4 rfl (lv_at hl 0 rfl) ?_
  refine pget (ci := 12) (v := va_rf (u0.2.2.2.2 h0 14)) (C := RX12) (T := TX12) (N := 34) hx hb hts i_X12 hown hK hP m_h0 (cF12 k_h0) rfl 14 (by decide) (hts (.fieldLink RX12 34 "BellowsRowModel" "fresh" "[I") (by decide +kernel)) (fun _ h9 => h9) rfl dX12_readPerson_5 ?_
  refine W.eq (g2 := F0 m 8 ls [.ref a14, .int 4, .int 374]) (by rw [(((hp h0 m0_h0).2.2.2.2.2.1 k0_h0 14).trans q0_14)]; rfl) ?_
  refine lv_iconst (v := 4) hx hb dX12_readPerson_8 (by decide) ?_
  refine palI hx hb hK hP m_a14 (cF51 k_a14) 1 rfl (vp_in_iff.mpr (by decide)) dX12_readPerson_9 ?_
  refine lv_topi (fun x1 ex1 => ?_)
  have tx1 : x1.toInt = (u0.2.2.1 a14 4).toInt := congrArg Int32.toInt ex1
  have g2 : 0 ≤ x1.toInt ∧ x1.toInt ≤ 12 := by have g : okI (u0.2.1 a14) (4) (u0.2.2.1 a14 (4)) := (hu a14 m_a14).2.2.2 (4); rw [k_a14, ← (show x1 = u0.2.2.1 a14 (4) from ex1)] at g; have g : okW (4) x1 := g; unfold okW at g; (try simp only [i_lt, i_le, i_eq, Int32.toInt_toInt64, Int32.reduceToInt, Int64.reduceToInt, true_and, and_true, false_and, and_false, false_or, or_false, true_or, or_true, not_true_eq_false, not_false_eq_true, ne_eq, forall_const, true_implies, false_implies, implies_true] at hpre tx1 g ⊢) <;> omega
  refine lv_imul hx hb dX12_readPerson_10 ?_
  refine lv_topi (fun x3 ex3 => ?_)
  have tx3 : x3.toInt = 4 * x1.toInt := by rw [ex3]; exact i_mulc (c := 4) (by decide) ((show 0 ≤ x1.toInt ∧ x1.toInt ≤ 12 from by (try simp only [i_lt, i_le, i_eq, Int32.toInt_toInt64, Int32.reduceToInt, Int64.reduceToInt, true_and, and_true, false_and, and_false, false_or, or_false, true_or, or_true, not_true_eq_false, not_false_eq_true, ne_eq, forall_const, true_implies, false_implies, implies_true] at hpre tx1 g2 ⊢) <;> omega)) (by decide)
  refine lv_iadd hx hb dX12_readPerson_11 ?_
  refine lv_topi (fun x4 ex4 => ?_)
  have tx4 : x4.toInt = (374 : Int32).toInt + x3.toInt := by rw [ex4]; exact i_add (by (try simp only [i_lt, i_le, i_eq, Int32.toInt_toInt64, Int32.reduceToInt, Int64.reduceToInt, true_and, and_true, false_and, and_false, false_or, or_false, true_or, or_true, not_true_eq_false, not_false_eq_true, ne_eq, forall_const, true_implies, false_implies, implies_true] at hpre tx1 g2 tx3 ⊢) <;> omega) (by (try simp only [i_lt, i_le, i_eq, Int32.toInt_toInt64, Int32.reduceToInt, Int64.reduceToInt, true_and, and_true, false_and, and_false, false_or, or_false, true_or, or_true, not_true_eq_false, not_false_eq_true, ne_eq, forall_const, true_implies, false_implies, implies_true] at hpre tx1 g2 tx3 ⊢) <;> omega)
  refine lv_istore_n (lv' := [(1, .int x4), (0, .ref h0)]) hx hb dX12_readPerson_12 rfl hl (by decide) rfl (fun ls hl => ?_)
  refine lv_aload_n hx hb dX12_readPerson_13 rfl (lv_at hl 1 rfl) ?_
  refine va_ldcS (own := RX12) (tx := "knows") (q := tt.1 62) hx hb hown (hE.2.1 (RX12, 235, "knows", 62) (by decide +kernel)) dX12_readPerson_14 ?_
  refine xvV (C := RX12) (As := [.ref (tt.1 62)]) (rest := []) ⟨hx, hb, hml, hown, hts⟩ (fun sz => t_X12_needsWord l D k tt u0 hu h0 m_h0 k_h0 62 (by decide) sz) (cwV 1 hts gX12_readPerson_X12_needsWord rfl rfl rfl (by decide +kernel) ⟨Nat.le_of_ble_eq_true rfl, Nat.le_of_ble_eq_true rfl⟩) hP hK hD hN hE hS hA (precv hK hP m_h0 (cF12 k_h0) rfl) rfl hl.1 rfl (Nat.le_of_ble_eq_true rfl) dX12_readPerson_16 ⟨Nat.le_of_ble_eq_true rfl, Nat.le_of_ble_eq_true rfl⟩ (fun u6 H locs hqu6 hP hD hS => ?_)
  obtain ⟨hu, hxu6, z7, hr5⟩ := hqu6
  have hkl := KL.trans hkl hp z7.toL
  have hp := PX.trans hp hxu6
  have w8 : (u6.2.2.1 a14 4).toInt = (u0.2.2.1 a14 4).toInt := congrArg Int32.toInt (z7 a14 m_a14 k_a14 4)
  refine lv_aload_n hx hb dX12_readPerson_19 rfl (lv_at hl 1 rfl) ?_
  have k_h0 : u6.2.1 h0 = 12 := (hp h0 m0_h0).2.1.trans k0_h0
  have m_h0 : h0 ∈ u6.1 := (hp h0 m0_h0).1
  have k_a14 : u6.2.1 a14 = 51 := (hp a14 m0_a14).2.1.trans k0_a14
  have m_a14 : a14 ∈ u6.1 := (hp a14 m0_a14).1
  refine pget (ci := 12) (v := va_rf (u6.2.2.2.2 h0 14)) (C := RX12) (T := TX12) (N := 34) hx hb hts i_X12 hown hK hP m_h0 (cF12 k_h0) rfl 14 (by decide) (hts (.fieldLink RX12 34 "BellowsRowModel" "fresh" "[I") (by decide +kernel)) (fun _ h9 => h9) rfl dX12_readPerson_20 ?_
  refine W.eq (g2 := F0 m 23 ls [.ref a14]) (by rw [(((hp h0 m0_h0).2.2.2.2.2.1 k0_h0 14).trans q0_14)]; rfl) ?_
  refine lv_iload_n hx hb dX12_readPerson_23 rfl (lv_at hl 0 rfl) ?_
  refine lv_aload_n hx hb dX12_readPerson_24 rfl (lv_at hl 1 rfl) ?_
  refine xiV (C := RX12) (As := []) (rest := [.int x4, .ref a14]) ⟨hx, hb, hml, hown, hts⟩ (fun sz => t_X12_subjects l D k tt u6 hu h0 m_h0 k_h0  sz) (cwV 0 hts gX12_readPerson_X12_subjects rfl rfl rfl (by decide +kernel) ⟨Nat.le_of_ble_eq_true rfl, Nat.le_of_ble_eq_true rfl⟩) hP hK hD hN hE hS hA (precv hK hP m_h0 (cF12 k_h0) rfl) rfl hl.1 rfl (Nat.le_of_ble_eq_true rfl) dX12_readPerson_25 ⟨Nat.le_of_ble_eq_true rfl, Nat.le_of_ble_eq_true rfl⟩ (fun r9 u10 H locs hqu10 hP hD hS => ?_)
  obtain ⟨hu, hxu10, z11, hr9⟩ := hqu10
  have hkl := KL.trans hkl hp z11.toL
  have hp := PX.trans hp hxu10
  have w12 : (u10.2.2.1 a14 4).toInt = (u6.2.2.1 a14 4).toInt := congrArg Int32.toInt (z11 a14 m_a14 k_a14 4)
  have k_h0 : u10.2.1 h0 = 12 := (hp h0 m0_h0).2.1.trans k0_h0
  have m_h0 : h0 ∈ u10.1 := (hp h0 m0_h0).1
  have k_a14 : u10.2.1 a14 = 51 := (hp a14 m0_a14).2.1.trans k0_a14
  have m_a14 : a14 ∈ u10.1 := (hp a14 m0_a14).1
  refine pasI (u' := pSI u10 a14 (x4.toNatClampNeg) r9) hx hb hK hP hD hS m_a14 (cF51 k_a14) 1 rfl (vp_in_iff.mpr (by (try simp only [i_lt, i_le, i_eq, Int32.toInt_toInt64, Int32.reduceToInt, Int64.reduceToInt, true_and, and_true, false_and, and_false, false_or, or_false, true_or, or_true, not_true_eq_false, not_false_eq_true, ne_eq, forall_const, true_implies, false_implies, implies_true] at hpre tx1 g2 tx3 tx4 w8 hr5 w12 hr9 ⊢) <;> omega)) rfl (sF51 k_a14 _ _) dX12_readPerson_28 (fun H locs hP hD hS => ?_)
  have hu := WT.setI (a := a14) (s := (x4.toNatClampNeg)) (v := r9) hu (by rw [k_a14]; exact (show okW (x4.toNatClampNeg) r9 from by unfold okW; have z := cl_int (x := x4) (by (try simp only [i_lt, i_le, i_eq, Int32.toInt_toInt64, Int32.reduceToInt, Int64.reduceToInt, true_and, and_true, false_and, and_false, false_or, or_false, true_or, or_true, not_true_eq_false, not_false_eq_true, ne_eq, forall_const, true_implies, false_implies, implies_true] at hpre tx1 g2 tx3 tx4 w8 hr5 w12 hr9 ⊢) <;> omega); (try simp only [i_lt, i_le, i_eq, Int32.toInt_toInt64, Int32.reduceToInt, Int64.reduceToInt, true_and, and_true, false_and, and_false, false_or, or_false, true_or, or_true, not_true_eq_false, not_false_eq_true, ne_eq, forall_const, true_implies, false_implies, implies_true] at hpre tx1 g2 tx3 tx4 w8 hr5 w12 hr9 z ⊢) <;> omega))
  have hkl := KL.setF (a := a14) (s := (x4.toNatClampNeg)) (v := r9) hkl (by have z := cl_int (x := x4) (by (try simp only [i_lt, i_le, i_eq, Int32.toInt_toInt64, Int32.reduceToInt, Int64.reduceToInt, true_and, and_true, false_and, and_false, false_or, or_false, true_or, or_true, not_true_eq_false, not_false_eq_true, ne_eq, forall_const, true_implies, false_implies, implies_true] at hpre tx1 g2 tx3 tx4 w8 hr5 w12 hr9 ⊢) <;> omega); (try simp only [i_lt, i_le, i_eq, Int32.toInt_toInt64, Int32.reduceToInt, Int64.reduceToInt, true_and, and_true, false_and, and_false, false_or, or_false, true_or, or_true, not_true_eq_false, not_false_eq_true, ne_eq, forall_const, true_implies, false_implies, implies_true] at hpre tx1 g2 tx3 tx4 w8 hr5 w12 hr9 z ⊢) <;> omega)
  have hp := PX.setI (a := a14) (s := (x4.toNatClampNeg)) (v := r9) hp (by rw [k_a14]; decide)
  obtain ⟨u13, hu13⟩ : ∃ z, z = pSI u10 a14 (x4.toNatClampNeg) r9 := ⟨_, rfl⟩
  rw [← hu13] at hP hD hu hp hkl
  have w14 : (u13.2.2.1 a14 4).toInt = (u10.2.2.1 a14 4).toInt := by rw [hu13]; exact congrArg Int32.toInt (if_neg (fun q => by have y := q.2; have z := cl_int (x := x4) (by (try simp only [i_lt, i_le, i_eq, Int32.toInt_toInt64, Int32.reduceToInt, Int64.reduceToInt, true_and, and_true, false_and, and_false, false_or, or_false, true_or, or_true, not_true_eq_false, not_false_eq_true, ne_eq, forall_const, true_implies, false_implies, implies_true] at hpre tx1 g2 tx3 tx4 w8 hr5 w12 hr9 ⊢) <;> omega); (try simp only [i_lt, i_le, i_eq, Int32.toInt_toInt64, Int32.reduceToInt, Int64.reduceToInt, true_and, and_true, false_and, and_false, false_or, or_false, true_or, or_true, not_true_eq_false, not_false_eq_true, ne_eq, forall_const, true_implies, false_implies, implies_true] at hpre tx1 g2 tx3 tx4 w8 hr5 w12 hr9 y z ⊢) <;> omega))
  refine lv_aload_n hx hb dX12_readPerson_29 rfl (lv_at hl 1 rfl) ?_
  have k_h0 : u13.2.1 h0 = 12 := (hp h0 m0_h0).2.1.trans k0_h0
  have m_h0 : h0 ∈ u13.1 := (hp h0 m0_h0).1
  have k_a14 : u13.2.1 a14 = 51 := (hp a14 m0_a14).2.1.trans k0_a14
  have m_a14 : a14 ∈ u13.1 := (hp a14 m0_a14).1
  refine pget (ci := 12) (v := va_rf (u13.2.2.2.2 h0 14)) (C := RX12) (T := TX12) (N := 34) hx hb hts i_X12 hown hK hP m_h0 (cF12 k_h0) rfl 14 (by decide) (hts (.fieldLink RX12 34 "BellowsRowModel" "fresh" "[I") (by decide +kernel)) (fun _ h9 => h9) rfl dX12_readPerson_30 ?_
  refine W.eq (g2 := F0 m 33 ls [.ref a14]) (by rw [(((hp h0 m0_h0).2.2.2.2.2.1 k0_h0 14).trans q0_14)]; rfl) ?_
  refine lv_iload_n hx hb dX12_readPerson_33 rfl (lv_at hl 0 rfl) ?_
  refine lv_iconst (v := 1) hx hb dX12_readPerson_34 (by decide) ?_
  refine lv_iadd hx hb dX12_readPerson_35 ?_
  refine lv_topi (fun x15 ex15 => ?_)
  have tx15 : x15.toInt = x4.toInt + (1 : Int32).toInt := by rw [ex15]; exact i_add (by (try simp only [i_lt, i_le, i_eq, Int32.toInt_toInt64, Int32.reduceToInt, Int64.reduceToInt, true_and, and_true, false_and, and_false, false_or, or_false, true_or, or_true, not_true_eq_false, not_false_eq_true, ne_eq, forall_const, true_implies, false_implies, implies_true] at hpre tx1 g2 tx3 tx4 w8 hr5 w12 hr9 w14 ⊢) <;> omega) (by (try simp only [i_lt, i_le, i_eq, Int32.toInt_toInt64, Int32.reduceToInt, Int64.reduceToInt, true_and, and_true, false_and, and_false, false_or, or_false, true_or, or_true, not_true_eq_false, not_false_eq_true, ne_eq, forall_const, true_implies, false_implies, implies_true] at hpre tx1 g2 tx3 tx4 w8 hr5 w12 hr9 w14 ⊢) <;> omega)
  refine lv_aload_n hx hb dX12_readPerson_36 rfl (lv_at hl 1 rfl) ?_
  refine va_ldcS (own := RX12) (tx := "away") (q := tt.1 63) hx hb hown (hE.2.1 (RX12, 240, "away", 63) (by decide +kernel)) dX12_readPerson_37 ?_
  refine xiV (C := RX12) (As := [.ref (tt.1 63)]) (rest := [.int x15, .ref a14]) ⟨hx, hb, hml, hown, hts⟩ (fun sz => t_X12_takes l D k tt u13 hu h0 m_h0 k_h0 63 (by decide) sz) (cwV 1 hts gX12_readPerson_X12_takes rfl rfl rfl (by decide +kernel) ⟨Nat.le_of_ble_eq_true rfl, Nat.le_of_ble_eq_true rfl⟩) hP hK hD hN hE hS hA (precv hK hP m_h0 (cF12 k_h0) rfl) rfl hl.1 rfl (Nat.le_of_ble_eq_true rfl) dX12_readPerson_39 ⟨Nat.le_of_ble_eq_true rfl, Nat.le_of_ble_eq_true rfl⟩ (fun r16 u17 H locs hqu17 hP hD hS => ?_)
  obtain ⟨hu, hxu17, z18, hr16⟩ := hqu17
  rcases hr16 with ⟨er16, hnr16, sameu17⟩ | ⟨er16, hir16, har16⟩
  · have sameu17 := sameu17.symm
    subst sameu17
    refine lv_if_eq (tgt := 49) hx hb dX12_readPerson_42 (by decide) (fun _ => ?_) (fun h => absurd (by (try simp only [i_lt, i_le, i_eq, Int32.toInt_toInt64, Int32.reduceToInt, Int64.reduceToInt, true_and, and_true, false_and, and_false, false_or, or_false, true_or, or_true, not_true_eq_false, not_false_eq_true, ne_eq, forall_const, true_implies, false_implies, implies_true] at hpre tx1 g2 tx3 tx4 w8 hr5 w12 hr9 w14 tx15 er16 ⊢) <;> omega) h)
    refine lv_iconst (v := 0) hx hb dX12_readPerson_49 (by decide) ?_
    refine pasI (u' := pSI u13 a14 (x15.toNatClampNeg) 0) hx hb hK hP hD hS m_a14 (cF51 k_a14) 1 rfl (vp_in_iff.mpr (by (try simp only [i_lt, i_le, i_eq, Int32.toInt_toInt64, Int32.reduceToInt, Int64.reduceToInt, true_and, and_true, false_and, and_false, false_or, or_false, true_or, or_true, not_true_eq_false, not_false_eq_true, ne_eq, forall_const, true_implies, false_implies, implies_true] at hpre tx1 g2 tx3 tx4 w8 hr5 w12 hr9 w14 tx15 er16 ⊢) <;> omega)) rfl (sF51 k_a14 _ _) dX12_readPerson_50 (fun H locs hP hD hS => ?_)
    have hu := WT.setI (a := a14) (s := (x15.toNatClampNeg)) (v := 0) hu (by rw [k_a14]; exact (show okW (x15.toNatClampNeg) (0 : Int32) from by unfold okW; have z := cl_int (x := x15) (by (try simp only [i_lt, i_le, i_eq, Int32.toInt_toInt64, Int32.reduceToInt, Int64.reduceToInt, true_and, and_true, false_and, and_false, false_or, or_false, true_or, or_true, not_true_eq_false, not_false_eq_true, ne_eq, forall_const, true_implies, false_implies, implies_true] at hpre tx1 g2 tx3 tx4 w8 hr5 w12 hr9 w14 tx15 er16 ⊢) <;> omega); (try simp only [i_lt, i_le, i_eq, Int32.toInt_toInt64, Int32.reduceToInt, Int64.reduceToInt, true_and, and_true, false_and, and_false, false_or, or_false, true_or, or_true, not_true_eq_false, not_false_eq_true, ne_eq, forall_const, true_implies, false_implies, implies_true] at hpre tx1 g2 tx3 tx4 w8 hr5 w12 hr9 w14 tx15 er16 z ⊢) <;> omega))
    have hkl := KL.setF (a := a14) (s := (x15.toNatClampNeg)) (v := 0) hkl (by have z := cl_int (x := x15) (by (try simp only [i_lt, i_le, i_eq, Int32.toInt_toInt64, Int32.reduceToInt, Int64.reduceToInt, true_and, and_true, false_and, and_false, false_or, or_false, true_or, or_true, not_true_eq_false, not_false_eq_true, ne_eq, forall_const, true_implies, false_implies, implies_true] at hpre tx1 g2 tx3 tx4 w8 hr5 w12 hr9 w14 tx15 er16 ⊢) <;> omega); (try simp only [i_lt, i_le, i_eq, Int32.toInt_toInt64, Int32.reduceToInt, Int64.reduceToInt, true_and, and_true, false_and, and_false, false_or, or_false, true_or, or_true, not_true_eq_false, not_false_eq_true, ne_eq, forall_const, true_implies, false_implies, implies_true] at hpre tx1 g2 tx3 tx4 w8 hr5 w12 hr9 w14 tx15 er16 z ⊢) <;> omega)
    have hp := PX.setI (a := a14) (s := (x15.toNatClampNeg)) (v := 0) hp (by rw [k_a14]; decide)
    obtain ⟨u19, hu19⟩ : ∃ z, z = pSI u13 a14 (x15.toNatClampNeg) 0 := ⟨_, rfl⟩
    rw [← hu19] at hP hD hu hp hkl
    have w20 : (u19.2.2.1 a14 4).toInt = (u13.2.2.1 a14 4).toInt := by rw [hu19]; exact congrArg Int32.toInt (if_neg (fun q => by have y := q.2; have z := cl_int (x := x15) (by (try simp only [i_lt, i_le, i_eq, Int32.toInt_toInt64, Int32.reduceToInt, Int64.reduceToInt, true_and, and_true, false_and, and_false, false_or, or_false, true_or, or_true, not_true_eq_false, not_false_eq_true, ne_eq, forall_const, true_implies, false_implies, implies_true] at hpre tx1 g2 tx3 tx4 w8 hr5 w12 hr9 w14 tx15 er16 ⊢) <;> omega); (try simp only [i_lt, i_le, i_eq, Int32.toInt_toInt64, Int32.reduceToInt, Int64.reduceToInt, true_and, and_true, false_and, and_false, false_or, or_false, true_or, or_true, not_true_eq_false, not_false_eq_true, ne_eq, forall_const, true_implies, false_implies, implies_true] at hpre tx1 g2 tx3 tx4 w8 hr5 w12 hr9 w14 tx15 er16 y z ⊢) <;> omega))
    refine lv_aload_n hx hb dX12_readPerson_51 rfl (lv_at hl 1 rfl) ?_
    have k_h0 : u19.2.1 h0 = 12 := (hp h0 m0_h0).2.1.trans k0_h0
    have m_h0 : h0 ∈ u19.1 := (hp h0 m0_h0).1
    have k_a14 : u19.2.1 a14 = 51 := (hp a14 m0_a14).2.1.trans k0_a14
    have m_a14 : a14 ∈ u19.1 := (hp a14 m0_a14).1
    refine pget (ci := 12) (v := va_rf (u19.2.2.2.2 h0 14)) (C := RX12) (T := TX12) (N := 34) hx hb hts i_X12 hown hK hP m_h0 (cF12 k_h0) rfl 14 (by decide) (hts (.fieldLink RX12 34 "BellowsRowModel" "fresh" "[I") (by decide +kernel)) (fun _ h9 => h9) rfl dX12_readPerson_52 ?_
    refine W.eq (g2 := F0 m 55 ls [.ref a14]) (by rw [(((hp h0 m0_h0).2.2.2.2.2.1 k0_h0 14).trans q0_14)]; rfl) ?_
    refine lv_iload_n hx hb dX12_readPerson_55 rfl (lv_at hl 0 rfl) ?_
    refine lv_iconst (v := 1) hx hb dX12_readPerson_56 (by decide) ?_
    refine lv_iadd hx hb dX12_readPerson_57 ?_
    refine lv_topi (fun x21 ex21 => ?_)
    have tx21 : x21.toInt = x4.toInt + (1 : Int32).toInt := by rw [ex21]; exact i_add (by (try simp only [i_lt, i_le, i_eq, Int32.toInt_toInt64, Int32.reduceToInt, Int64.reduceToInt, true_and, and_true, false_and, and_false, false_or, or_false, true_or, or_true, not_true_eq_false, not_false_eq_true, ne_eq, forall_const, true_implies, false_implies, implies_true] at hpre tx1 g2 tx3 tx4 w8 hr5 w12 hr9 w14 tx15 er16 w20 ⊢) <;> omega) (by (try simp only [i_lt, i_le, i_eq, Int32.toInt_toInt64, Int32.reduceToInt, Int64.reduceToInt, true_and, and_true, false_and, and_false, false_or, or_false, true_or, or_true, not_true_eq_false, not_false_eq_true, ne_eq, forall_const, true_implies, false_implies, implies_true] at hpre tx1 g2 tx3 tx4 w8 hr5 w12 hr9 w14 tx15 er16 w20 ⊢) <;> omega)
    refine palI hx hb hK hP m_a14 (cF51 k_a14) 1 rfl (vp_in_iff.mpr (by (try simp only [i_lt, i_le, i_eq, Int32.toInt_toInt64, Int32.reduceToInt, Int64.reduceToInt, true_and, and_true, false_and, and_false, false_or, or_false, true_or, or_true, not_true_eq_false, not_false_eq_true, ne_eq, forall_const, true_implies, false_implies, implies_true] at hpre tx1 g2 tx3 tx4 w8 hr5 w12 hr9 w14 tx15 er16 w20 tx21 ⊢) <;> omega)) dX12_readPerson_58 ?_
    refine lv_topi (fun x22 ex22 => ?_)
    have tx22 : x22.toInt = (u19.2.2.1 a14 (x21.toNatClampNeg)).toInt := congrArg Int32.toInt ex22
    refine lv_iconst (v := 1) hx hb dX12_readPerson_59 (by decide) ?_
    refine lv_icmp_ne (tgt := 104) hx hb dX12_readPerson_60 (by decide) (fun c23 => ?_) (fun c23 => ?_)
    · refine lv_aload_n hx hb dX12_readPerson_104 rfl (lv_at hl 1 rfl) ?_
      refine rvi (C := RX12) (As := []) (rest := []) ⟨hx, hb, hml, hown, hts⟩ (t_X12_good l D k u19 hu h0 m_h0 k_h0 ) (cwV 0 hts gX12_readPerson_X12_good rfl rfl rfl (by decide +kernel) ⟨Nat.le_of_ble_eq_true rfl, Nat.le_of_ble_eq_true rfl⟩) hP hK (precv hK hP m_h0 (cF12 k_h0) rfl) rfl hl.1 rfl (Nat.le_of_ble_eq_true rfl) dX12_readPerson_105 ⟨Nat.le_of_ble_eq_true rfl, Nat.le_of_ble_eq_true rfl⟩ (fun r24 hr24 => ?_)
      refine lv_if_eq (tgt := 121) hx hb dX12_readPerson_108 (by decide) (fun c25 => ?_) (fun c25 => ?_)
      · have eb26 : r24.toInt = 0 := by rcases hr24 with ⟨q, -⟩ | ⟨q, -⟩; exact q; (exact absurd (c25) (fun w => by rw [w] at q; exact absurd q (by decide)))
        have fb26 : (u19.2.2.1 h0 12).toInt ≠ 0 := by rcases hr24 with ⟨q, r⟩ | ⟨q, r⟩; exact r; exact absurd q (by omega)
        clear hr24
        exact W.vret hx hb hr (fun t ht hW => ⟨⟨u19, rfl, ⟨hu, hp, hkl, trivial⟩, by rw [ht]; exact hP, hD⟩, hS.F ht⟩) hS.2.2 dX12_readPerson_121
      · have eb27 : r24.toInt = 1 := by rcases hr24 with ⟨q, -⟩ | ⟨q, -⟩; exact absurd (i_eq.mpr q) c25; exact q
        have fb27 : (u19.2.2.1 h0 12).toInt = 0 := by rcases hr24 with ⟨q, r⟩ | ⟨q, r⟩; exact absurd q (by omega); exact r
        clear hr24
        refine lv_aload_n hx hb dX12_readPerson_111 rfl (lv_at hl 1 rfl) ?_
        refine pget (ci := 12) (v := va_rf (u19.2.2.2.2 h0 14)) (C := RX12) (T := TX12) (N := 34) hx hb hts i_X12 hown hK hP m_h0 (cF12 k_h0) rfl 14 (by decide) (hts (.fieldLink RX12 34 "BellowsRowModel" "fresh" "[I") (by decide +kernel)) (fun _ h9 => h9) rfl dX12_readPerson_112 ?_
        refine W.eq (g2 := F0 m 115 ls [.ref a14]) (by rw [(((hp h0 m0_h0).2.2.2.2.2.1 k0_h0 14).trans q0_14)]; rfl) ?_
        refine lv_iconst (v := 4) hx hb dX12_readPerson_115 (by decide) ?_
        refine lv_dup2_11 hx hb dX12_readPerson_116 rfl rfl ?_
        refine palI hx hb hK hP m_a14 (cF51 k_a14) 1 rfl (vp_in_iff.mpr (by decide)) dX12_readPerson_117 ?_
        refine lv_topi (fun x28 ex28 => ?_)
        have tx28 : x28.toInt = (u19.2.2.1 a14 4).toInt := congrArg Int32.toInt ex28
        have g29 : 0 ≤ x28.toInt ∧ x28.toInt ≤ 12 := by have g : okI (u19.2.1 a14) (4) (u19.2.2.1 a14 (4)) := (hu a14 m_a14).2.2.2 (4); rw [k_a14, ← (show x28 = u19.2.2.1 a14 (4) from ex28)] at g; have g : okW (4) x28 := g; unfold okW at g; (try simp only [i_lt, i_le, i_eq, Int32.toInt_toInt64, Int32.reduceToInt, Int64.reduceToInt, true_and, and_true, false_and, and_false, false_or, or_false, true_or, or_true, not_true_eq_false, not_false_eq_true, ne_eq, forall_const, true_implies, false_implies, implies_true] at hpre tx1 g2 tx3 tx4 w8 hr5 w12 hr9 w14 tx15 er16 w20 tx21 tx22 eb27 fb27 tx28 g ⊢) <;> omega
        refine lv_iconst (v := 1) hx hb dX12_readPerson_118 (by decide) ?_
        refine lv_iadd hx hb dX12_readPerson_119 ?_
        refine lv_topi (fun x30 ex30 => ?_)
        have tx30 : x30.toInt = x28.toInt + (1 : Int32).toInt := by rw [ex30]; exact i_add (by (try simp only [i_lt, i_le, i_eq, Int32.toInt_toInt64, Int32.reduceToInt, Int64.reduceToInt, true_and, and_true, false_and, and_false, false_or, or_false, true_or, or_true, not_true_eq_false, not_false_eq_true, ne_eq, forall_const, true_implies, false_implies, implies_true] at hpre tx1 g2 tx3 tx4 w8 hr5 w12 hr9 w14 tx15 er16 w20 tx21 tx22 eb27 fb27 tx28 g29 ⊢) <;> omega) (by (try simp only [i_lt, i_le, i_eq, Int32.toInt_toInt64, Int32.reduceToInt, Int64.reduceToInt, true_and, and_true, false_and, and_false, false_or, or_false, true_or, or_true, not_true_eq_false, not_false_eq_true, ne_eq, forall_const, true_implies, false_implies, implies_true] at hpre tx1 g2 tx3 tx4 w8 hr5 w12 hr9 w14 tx15 er16 w20 tx21 tx22 eb27 fb27 tx28 g29 ⊢) <;> omega)
        refine pasI (u' := pSI u19 a14 4 x30) hx hb hK hP hD hS m_a14 (cF51 k_a14) 1 rfl (vp_in_iff.mpr (by decide)) rfl (sF51 k_a14 _ _) dX12_readPerson_120 (fun H locs hP hD hS => ?_)
        have hu := WT.setI (a := a14) (s := 4) (v := x30) hu (by rw [k_a14]; exact (show okW 4 x30 from by unfold okW; (try simp only [i_lt, i_le, i_eq, Int32.toInt_toInt64, Int32.reduceToInt, Int64.reduceToInt, true_and, and_true, false_and, and_false, false_or, or_false, true_or, or_true, not_true_eq_false, not_false_eq_true, ne_eq, forall_const, true_implies, false_implies, implies_true] at hpre tx1 g2 tx3 tx4 w8 hr5 w12 hr9 w14 tx15 er16 w20 tx21 tx22 eb27 fb27 tx28 g29 tx30 ⊢) <;> omega))
        have hkl := KL.setF (a := a14) (s := 4) (v := x30) hkl (by (try simp only [i_lt, i_le, i_eq, Int32.toInt_toInt64, Int32.reduceToInt, Int64.reduceToInt, true_and, and_true, false_and, and_false, false_or, or_false, true_or, or_true, not_true_eq_false, not_false_eq_true, ne_eq, forall_const, true_implies, false_implies, implies_true] at hpre tx1 g2 tx3 tx4 w8 hr5 w12 hr9 w14 tx15 er16 w20 tx21 tx22 eb27 fb27 tx28 g29 tx30 ⊢) <;> omega)
        have hp := PX.setI (a := a14) (s := 4) (v := x30) hp (by rw [k_a14]; decide)
        obtain ⟨u31, hu31⟩ : ∃ z, z = pSI u19 a14 4 x30 := ⟨_, rfl⟩
        rw [← hu31] at hP hD hu hp hkl
        have w32 : (u31.2.2.1 a14 4).toInt = x30.toInt := by rw [hu31]; exact congrArg Int32.toInt (if_pos ⟨rfl, rfl⟩)
        exact W.vret hx hb hr (fun t ht hW => ⟨⟨u31, rfl, ⟨hu, hp, hkl, trivial⟩, by rw [ht]; exact hP, hD⟩, hS.F ht⟩) hS.2.2 dX12_readPerson_121
    · refine lv_aload_n hx hb dX12_readPerson_63 rfl (lv_at hl 1 rfl) ?_
      refine pget (ci := 12) (v := va_rf (u19.2.2.2.2 h0 14)) (C := RX12) (T := TX12) (N := 34) hx hb hts i_X12 hown hK hP m_h0 (cF12 k_h0) rfl 14 (by decide) (hts (.fieldLink RX12 34 "BellowsRowModel" "fresh" "[I") (by decide +kernel)) (fun _ h9 => h9) rfl dX12_readPerson_64 ?_
      refine W.eq (g2 := F0 m 67 ls [.ref a14]) (by rw [(((hp h0 m0_h0).2.2.2.2.2.1 k0_h0 14).trans q0_14)]; rfl) ?_
      refine lv_iload_n hx hb dX12_readPerson_67 rfl (lv_at hl 0 rfl) ?_
      refine lv_iconst (v := 2) hx hb dX12_readPerson_68 (by decide) ?_
      refine lv_iadd hx hb dX12_readPerson_69 ?_
      refine lv_topi (fun x33 ex33 => ?_)
      have tx33 : x33.toInt = x4.toInt + (2 : Int32).toInt := by rw [ex33]; exact i_add (by (try simp only [i_lt, i_le, i_eq, Int32.toInt_toInt64, Int32.reduceToInt, Int64.reduceToInt, true_and, and_true, false_and, and_false, false_or, or_false, true_or, or_true, not_true_eq_false, not_false_eq_true, ne_eq, forall_const, true_implies, false_implies, implies_true] at hpre tx1 g2 tx3 tx4 w8 hr5 w12 hr9 w14 tx15 er16 w20 tx21 tx22 c23 ⊢) <;> omega) (by (try simp only [i_lt, i_le, i_eq, Int32.toInt_toInt64, Int32.reduceToInt, Int64.reduceToInt, true_and, and_true, false_and, and_false, false_or, or_false, true_or, or_true, not_true_eq_false, not_false_eq_true, ne_eq, forall_const, true_implies, false_implies, implies_true] at hpre tx1 g2 tx3 tx4 w8 hr5 w12 hr9 w14 tx15 er16 w20 tx21 tx22 c23 ⊢) <;> omega)
      refine lv_aload_n hx hb dX12_readPerson_70 rfl (lv_at hl 1 rfl) ?_
      refine lv_iconst (v := 0) hx hb dX12_readPerson_71 (by decide) ?_
      refine lv_sipush (v := 999) hx hb dX12_readPerson_72 (by decide) ?_
      refine wiV (C := RX12) (As := [.int 0, .int 999]) (rest := [.int x33, .ref a14]) ⟨hx, hb, hml, hown, hts⟩ (fun sz => t_X12_number l D k u19 hu h0 m_h0 k_h0 0 999 sz) (cwV 2 hts gX12_readPerson_X12_number rfl rfl rfl (by decide +kernel) ⟨Nat.le_of_ble_eq_true rfl, Nat.le_of_ble_eq_true rfl⟩) hP hK hD hN hS hA (precv hK hP m_h0 (cF12 k_h0) rfl) rfl hl.1 rfl (Nat.le_of_ble_eq_true rfl) dX12_readPerson_75 ⟨Nat.le_of_ble_eq_true rfl, Nat.le_of_ble_eq_true rfl⟩ (fun r34 u35 H locs hqu35 hP hD hS => ?_)
      obtain ⟨hu, hxu35, z36, hr34⟩ := hqu35
      have hkl := KL.trans hkl hp z36.toL
      have hp := PX.trans hp hxu35
      have w37 : (u35.2.2.1 a14 4).toInt = (u19.2.2.1 a14 4).toInt := congrArg Int32.toInt (z36 a14 m_a14 k_a14 4)
      have gr34 : 0 ≤ r34.toInt ∧ r34.toInt ≤ 999 := by (try simp only [i_lt, i_le, i_eq, Int32.toInt_toInt64, Int32.reduceToInt, Int64.reduceToInt, true_and, and_true, false_and, and_false, false_or, or_false, true_or, or_true, not_true_eq_false, not_false_eq_true, ne_eq, forall_const, true_implies, false_implies, implies_true] at hpre tx1 g2 tx3 tx4 w8 hr5 w12 hr9 w14 tx15 er16 w20 tx21 tx22 c23 tx33 w37 hr34 ⊢) <;> omega
      have k_h0 : u35.2.1 h0 = 12 := (hp h0 m0_h0).2.1.trans k0_h0
      have m_h0 : h0 ∈ u35.1 := (hp h0 m0_h0).1
      have k_a14 : u35.2.1 a14 = 51 := (hp a14 m0_a14).2.1.trans k0_a14
      have m_a14 : a14 ∈ u35.1 := (hp a14 m0_a14).1
      refine pasI (u' := pSI u35 a14 (x33.toNatClampNeg) r34) hx hb hK hP hD hS m_a14 (cF51 k_a14) 1 rfl (vp_in_iff.mpr (by (try simp only [i_lt, i_le, i_eq, Int32.toInt_toInt64, Int32.reduceToInt, Int64.reduceToInt, true_and, and_true, false_and, and_false, false_or, or_false, true_or, or_true, not_true_eq_false, not_false_eq_true, ne_eq, forall_const, true_implies, false_implies, implies_true] at hpre tx1 g2 tx3 tx4 w8 hr5 w12 hr9 w14 tx15 er16 w20 tx21 tx22 c23 tx33 w37 hr34 gr34 ⊢) <;> omega)) rfl (sF51 k_a14 _ _) dX12_readPerson_78 (fun H locs hP hD hS => ?_)
      have hu := WT.setI (a := a14) (s := (x33.toNatClampNeg)) (v := r34) hu (by rw [k_a14]; exact (show okW (x33.toNatClampNeg) r34 from by unfold okW; have z := cl_int (x := x33) (by (try simp only [i_lt, i_le, i_eq, Int32.toInt_toInt64, Int32.reduceToInt, Int64.reduceToInt, true_and, and_true, false_and, and_false, false_or, or_false, true_or, or_true, not_true_eq_false, not_false_eq_true, ne_eq, forall_const, true_implies, false_implies, implies_true] at hpre tx1 g2 tx3 tx4 w8 hr5 w12 hr9 w14 tx15 er16 w20 tx21 tx22 c23 tx33 w37 hr34 gr34 ⊢) <;> omega); (try simp only [i_lt, i_le, i_eq, Int32.toInt_toInt64, Int32.reduceToInt, Int64.reduceToInt, true_and, and_true, false_and, and_false, false_or, or_false, true_or, or_true, not_true_eq_false, not_false_eq_true, ne_eq, forall_const, true_implies, false_implies, implies_true] at hpre tx1 g2 tx3 tx4 w8 hr5 w12 hr9 w14 tx15 er16 w20 tx21 tx22 c23 tx33 w37 hr34 gr34 z ⊢) <;> omega))
      have hkl := KL.setF (a := a14) (s := (x33.toNatClampNeg)) (v := r34) hkl (by have z := cl_int (x := x33) (by (try simp only [i_lt, i_le, i_eq, Int32.toInt_toInt64, Int32.reduceToInt, Int64.reduceToInt, true_and, and_true, false_and, and_false, false_or, or_false, true_or, or_true, not_true_eq_false, not_false_eq_true, ne_eq, forall_const, true_implies, false_implies, implies_true] at hpre tx1 g2 tx3 tx4 w8 hr5 w12 hr9 w14 tx15 er16 w20 tx21 tx22 c23 tx33 w37 hr34 gr34 ⊢) <;> omega); (try simp only [i_lt, i_le, i_eq, Int32.toInt_toInt64, Int32.reduceToInt, Int64.reduceToInt, true_and, and_true, false_and, and_false, false_or, or_false, true_or, or_true, not_true_eq_false, not_false_eq_true, ne_eq, forall_const, true_implies, false_implies, implies_true] at hpre tx1 g2 tx3 tx4 w8 hr5 w12 hr9 w14 tx15 er16 w20 tx21 tx22 c23 tx33 w37 hr34 gr34 z ⊢) <;> omega)
      have hp := PX.setI (a := a14) (s := (x33.toNatClampNeg)) (v := r34) hp (by rw [k_a14]; decide)
      obtain ⟨u38, hu38⟩ : ∃ z, z = pSI u35 a14 (x33.toNatClampNeg) r34 := ⟨_, rfl⟩
      rw [← hu38] at hP hD hu hp hkl
      have w39 : (u38.2.2.1 a14 4).toInt = (u35.2.2.1 a14 4).toInt := by rw [hu38]; exact congrArg Int32.toInt (if_neg (fun q => by have y := q.2; have z := cl_int (x := x33) (by (try simp only [i_lt, i_le, i_eq, Int32.toInt_toInt64, Int32.reduceToInt, Int64.reduceToInt, true_and, and_true, false_and, and_false, false_or, or_false, true_or, or_true, not_true_eq_false, not_false_eq_true, ne_eq, forall_const, true_implies, false_implies, implies_true] at hpre tx1 g2 tx3 tx4 w8 hr5 w12 hr9 w14 tx15 er16 w20 tx21 tx22 c23 tx33 w37 hr34 gr34 ⊢) <;> omega); (try simp only [i_lt, i_le, i_eq, Int32.toInt_toInt64, Int32.reduceToInt, Int64.reduceToInt, true_and, and_true, false_and, and_false, false_or, or_false, true_or, or_true, not_true_eq_false, not_false_eq_true, ne_eq, forall_const, true_implies, false_implies, implies_true] at hpre tx1 g2 tx3 tx4 w8 hr5 w12 hr9 w14 tx15 er16 w20 tx21 tx22 c23 tx33 w37 hr34 gr34 y z ⊢) <;> omega))
      refine lv_aload_n hx hb dX12_readPerson_79 rfl (lv_at hl 1 rfl) ?_
      have k_h0 : u38.2.1 h0 = 12 := (hp h0 m0_h0).2.1.trans k0_h0
      have m_h0 : h0 ∈ u38.1 := (hp h0 m0_h0).1
      have k_a14 : u38.2.1 a14 = 51 := (hp a14 m0_a14).2.1.trans k0_a14
      have m_a14 : a14 ∈ u38.1 := (hp a14 m0_a14).1
      refine pget (ci := 12) (v := va_rf (u38.2.2.2.2 h0 14)) (C := RX12) (T := TX12) (N := 34) hx hb hts i_X12 hown hK hP m_h0 (cF12 k_h0) rfl 14 (by decide) (hts (.fieldLink RX12 34 "BellowsRowModel" "fresh" "[I") (by decide +kernel)) (fun _ h9 => h9) rfl dX12_readPerson_80 ?_
      refine W.eq (g2 := F0 m 83 ls [.ref a14]) (by rw [(((hp h0 m0_h0).2.2.2.2.2.1 k0_h0 14).trans q0_14)]; rfl) ?_
      refine lv_iload_n hx hb dX12_readPerson_83 rfl (lv_at hl 0 rfl) ?_
      refine lv_iconst (v := 3) hx hb dX12_readPerson_84 (by decide) ?_
      refine lv_iadd hx hb dX12_readPerson_85 ?_
      refine lv_topi (fun x40 ex40 => ?_)
      have tx40 : x40.toInt = x4.toInt + (3 : Int32).toInt := by rw [ex40]; exact i_add (by (try simp only [i_lt, i_le, i_eq, Int32.toInt_toInt64, Int32.reduceToInt, Int64.reduceToInt, true_and, and_true, false_and, and_false, false_or, or_false, true_or, or_true, not_true_eq_false, not_false_eq_true, ne_eq, forall_const, true_implies, false_implies, implies_true] at hpre tx1 g2 tx3 tx4 w8 hr5 w12 hr9 w14 tx15 er16 w20 tx21 tx22 c23 tx33 w37 hr34 gr34 w39 ⊢) <;> omega) (by (try simp only [i_lt, i_le, i_eq, Int32.toInt_toInt64, Int32.reduceToInt, Int64.reduceToInt, true_and, and_true, false_and, and_false, false_or, or_false, true_or, or_true, not_true_eq_false, not_false_eq_true, ne_eq, forall_const, true_implies, false_implies, implies_true] at hpre tx1 g2 tx3 tx4 w8 hr5 w12 hr9 w14 tx15 er16 w20 tx21 tx22 c23 tx33 w37 hr34 gr34 w39 ⊢) <;> omega)
      refine lv_aload_n hx hb dX12_readPerson_86 rfl (lv_at hl 1 rfl) ?_
      refine va_ldcS (own := RX12) (tx := "to") (q := tt.1 50) hx hb hown (hE.2.1 (RX12, 196, "to", 50) (by decide +kernel)) dX12_readPerson_87 ?_
      refine lv_aload_n hx hb dX12_readPerson_89 rfl (lv_at hl 1 rfl) ?_
      refine pget (ci := 12) (v := va_rf (u38.2.2.2.2 h0 14)) (C := RX12) (T := TX12) (N := 34) hx hb hts i_X12 hown hK hP m_h0 (cF12 k_h0) rfl 14 (by decide) (hts (.fieldLink RX12 34 "BellowsRowModel" "fresh" "[I") (by decide +kernel)) (fun _ h9 => h9) rfl dX12_readPerson_90 ?_
      refine W.eq (g2 := F0 m 93 ls [.ref a14, .ref (tt.1 50), .ref h0, .int x40, .ref a14]) (by rw [(((hp h0 m0_h0).2.2.2.2.2.1 k0_h0 14).trans q0_14)]; rfl) ?_
      refine lv_iload_n hx hb dX12_readPerson_93 rfl (lv_at hl 0 rfl) ?_
      refine lv_iconst (v := 2) hx hb dX12_readPerson_94 (by decide) ?_
      refine lv_iadd hx hb dX12_readPerson_95 ?_
      refine lv_topi (fun x41 ex41 => ?_)
      have tx41 : x41.toInt = x4.toInt + (2 : Int32).toInt := by rw [ex41]; exact i_add (by (try simp only [i_lt, i_le, i_eq, Int32.toInt_toInt64, Int32.reduceToInt, Int64.reduceToInt, true_and, and_true, false_and, and_false, false_or, or_false, true_or, or_true, not_true_eq_false, not_false_eq_true, ne_eq, forall_const, true_implies, false_implies, implies_true] at hpre tx1 g2 tx3 tx4 w8 hr5 w12 hr9 w14 tx15 er16 w20 tx21 tx22 c23 tx33 w37 hr34 gr34 w39 tx40 ⊢) <;> omega) (by (try simp only [i_lt, i_le, i_eq, Int32.toInt_toInt64, Int32.reduceToInt, Int64.reduceToInt, true_and, and_true, false_and, and_false, false_or, or_false, true_or, or_true, not_true_eq_false, not_false_eq_true, ne_eq, forall_const, true_implies, false_implies, implies_true] at hpre tx1 g2 tx3 tx4 w8 hr5 w12 hr9 w14 tx15 er16 w20 tx21 tx22 c23 tx33 w37 hr34 gr34 w39 tx40 ⊢) <;> omega)
      refine palI hx hb hK hP m_a14 (cF51 k_a14) 1 rfl (vp_in_iff.mpr (by (try simp only [i_lt, i_le, i_eq, Int32.toInt_toInt64, Int32.reduceToInt, Int64.reduceToInt, true_and, and_true, false_and, and_false, false_or, or_false, true_or, or_true, not_true_eq_false, not_false_eq_true, ne_eq, forall_const, true_implies, false_implies, implies_true] at hpre tx1 g2 tx3 tx4 w8 hr5 w12 hr9 w14 tx15 er16 w20 tx21 tx22 c23 tx33 w37 hr34 gr34 w39 tx40 tx41 ⊢) <;> omega)) dX12_readPerson_96 ?_
      refine lv_topi (fun x42 ex42 => ?_)
      have tx42 : x42.toInt = (u38.2.2.1 a14 (x41.toNatClampNeg)).toInt := congrArg Int32.toInt ex42
      refine lv_sipush (v := 999) hx hb dX12_readPerson_97 (by decide) ?_
      refine xiV (C := RX12) (As := [.ref (tt.1 50), .int x42, .int 999]) (rest := [.int x40, .ref a14]) ⟨hx, hb, hml, hown, hts⟩ (fun sz => t_X12_told l D k tt u38 hu h0 m_h0 k_h0 50 (by decide) x42 999 sz) (cwV 3 hts gX12_readPerson_X12_told rfl rfl rfl (by decide +kernel) ⟨Nat.le_of_ble_eq_true rfl, Nat.le_of_ble_eq_true rfl⟩) hP hK hD hN hE hS hA (precv hK hP m_h0 (cF12 k_h0) rfl) rfl hl.1 rfl (Nat.le_of_ble_eq_true rfl) dX12_readPerson_100 ⟨Nat.le_of_ble_eq_true rfl, Nat.le_of_ble_eq_true rfl⟩ (fun r43 u44 H locs hqu44 hP hD hS => ?_)
      obtain ⟨hu, hxu44, z45, hr43⟩ := hqu44
      have hkl := KL.trans hkl hp z45.toL
      have hp := PX.trans hp hxu44
      have w46 : (u44.2.2.1 a14 4).toInt = (u38.2.2.1 a14 4).toInt := congrArg Int32.toInt (z45 a14 m_a14 k_a14 4)
      have gr43 : r43.toInt ≤ 999 := by (try simp only [i_lt, i_le, i_eq, Int32.toInt_toInt64, Int32.reduceToInt, Int64.reduceToInt, true_and, and_true, false_and, and_false, false_or, or_false, true_or, or_true, not_true_eq_false, not_false_eq_true, ne_eq, forall_const, true_implies, false_implies, implies_true] at hpre tx1 g2 tx3 tx4 w8 hr5 w12 hr9 w14 tx15 er16 w20 tx21 tx22 c23 tx33 w37 hr34 gr34 w39 tx40 tx41 tx42 w46 hr43 ⊢) <;> omega
      have k_h0 : u44.2.1 h0 = 12 := (hp h0 m0_h0).2.1.trans k0_h0
      have m_h0 : h0 ∈ u44.1 := (hp h0 m0_h0).1
      have k_a14 : u44.2.1 a14 = 51 := (hp a14 m0_a14).2.1.trans k0_a14
      have m_a14 : a14 ∈ u44.1 := (hp a14 m0_a14).1
      refine pasI (u' := pSI u44 a14 (x40.toNatClampNeg) r43) hx hb hK hP hD hS m_a14 (cF51 k_a14) 1 rfl (vp_in_iff.mpr (by (try simp only [i_lt, i_le, i_eq, Int32.toInt_toInt64, Int32.reduceToInt, Int64.reduceToInt, true_and, and_true, false_and, and_false, false_or, or_false, true_or, or_true, not_true_eq_false, not_false_eq_true, ne_eq, forall_const, true_implies, false_implies, implies_true] at hpre tx1 g2 tx3 tx4 w8 hr5 w12 hr9 w14 tx15 er16 w20 tx21 tx22 c23 tx33 w37 hr34 gr34 w39 tx40 tx41 tx42 w46 hr43 gr43 ⊢) <;> omega)) rfl (sF51 k_a14 _ _) dX12_readPerson_103 (fun H locs hP hD hS => ?_)
      have hu := WT.setI (a := a14) (s := (x40.toNatClampNeg)) (v := r43) hu (by rw [k_a14]; exact (show okW (x40.toNatClampNeg) r43 from by unfold okW; have z := cl_int (x := x40) (by (try simp only [i_lt, i_le, i_eq, Int32.toInt_toInt64, Int32.reduceToInt, Int64.reduceToInt, true_and, and_true, false_and, and_false, false_or, or_false, true_or, or_true, not_true_eq_false, not_false_eq_true, ne_eq, forall_const, true_implies, false_implies, implies_true] at hpre tx1 g2 tx3 tx4 w8 hr5 w12 hr9 w14 tx15 er16 w20 tx21 tx22 c23 tx33 w37 hr34 gr34 w39 tx40 tx41 tx42 w46 hr43 gr43 ⊢) <;> omega); (try simp only [i_lt, i_le, i_eq, Int32.toInt_toInt64, Int32.reduceToInt, Int64.reduceToInt, true_and, and_true, false_and, and_false, false_or, or_false, true_or, or_true, not_true_eq_false, not_false_eq_true, ne_eq, forall_const, true_implies, false_implies, implies_true] at hpre tx1 g2 tx3 tx4 w8 hr5 w12 hr9 w14 tx15 er16 w20 tx21 tx22 c23 tx33 w37 hr34 gr34 w39 tx40 tx41 tx42 w46 hr43 gr43 z ⊢) <;> omega))
      have hkl := KL.setF (a := a14) (s := (x40.toNatClampNeg)) (v := r43) hkl (by have z := cl_int (x := x40) (by (try simp only [i_lt, i_le, i_eq, Int32.toInt_toInt64, Int32.reduceToInt, Int64.reduceToInt, true_and, and_true, false_and, and_false, false_or, or_false, true_or, or_true, not_true_eq_false, not_false_eq_true, ne_eq, forall_const, true_implies, false_implies, implies_true] at hpre tx1 g2 tx3 tx4 w8 hr5 w12 hr9 w14 tx15 er16 w20 tx21 tx22 c23 tx33 w37 hr34 gr34 w39 tx40 tx41 tx42 w46 hr43 gr43 ⊢) <;> omega); (try simp only [i_lt, i_le, i_eq, Int32.toInt_toInt64, Int32.reduceToInt, Int64.reduceToInt, true_and, and_true, false_and, and_false, false_or, or_false, true_or, or_true, not_true_eq_false, not_false_eq_true, ne_eq, forall_const, true_implies, false_implies, implies_true] at hpre tx1 g2 tx3 tx4 w8 hr5 w12 hr9 w14 tx15 er16 w20 tx21 tx22 c23 tx33 w37 hr34 gr34 w39 tx40 tx41 tx42 w46 hr43 gr43 z ⊢) <;> omega)
      have hp := PX.setI (a := a14) (s := (x40.toNatClampNeg)) (v := r43) hp (by rw [k_a14]; decide)
      obtain ⟨u47, hu47⟩ : ∃ z, z = pSI u44 a14 (x40.toNatClampNeg) r43 := ⟨_, rfl⟩
      rw [← hu47] at hP hD hu hp hkl
      have w48 : (u47.2.2.1 a14 4).toInt = (u44.2.2.1 a14 4).toInt := by rw [hu47]; exact congrArg Int32.toInt (if_neg (fun q => by have y := q.2; have z := cl_int (x := x40) (by (try simp only [i_lt, i_le, i_eq, Int32.toInt_toInt64, Int32.reduceToInt, Int64.reduceToInt, true_and, and_true, false_and, and_false, false_or, or_false, true_or, or_true, not_true_eq_false, not_false_eq_true, ne_eq, forall_const, true_implies, false_implies, implies_true] at hpre tx1 g2 tx3 tx4 w8 hr5 w12 hr9 w14 tx15 er16 w20 tx21 tx22 c23 tx33 w37 hr34 gr34 w39 tx40 tx41 tx42 w46 hr43 gr43 ⊢) <;> omega); (try simp only [i_lt, i_le, i_eq, Int32.toInt_toInt64, Int32.reduceToInt, Int64.reduceToInt, true_and, and_true, false_and, and_false, false_or, or_false, true_or, or_true, not_true_eq_false, not_false_eq_true, ne_eq, forall_const, true_implies, false_implies, implies_true] at hpre tx1 g2 tx3 tx4 w8 hr5 w12 hr9 w14 tx15 er16 w20 tx21 tx22 c23 tx33 w37 hr34 gr34 w39 tx40 tx41 tx42 w46 hr43 gr43 y z ⊢) <;> omega))
      refine lv_aload_n hx hb dX12_readPerson_104 rfl (lv_at hl 1 rfl) ?_
      have k_h0 : u47.2.1 h0 = 12 := (hp h0 m0_h0).2.1.trans k0_h0
      have m_h0 : h0 ∈ u47.1 := (hp h0 m0_h0).1
      have k_a14 : u47.2.1 a14 = 51 := (hp a14 m0_a14).2.1.trans k0_a14
      have m_a14 : a14 ∈ u47.1 := (hp a14 m0_a14).1
      refine rvi (C := RX12) (As := []) (rest := []) ⟨hx, hb, hml, hown, hts⟩ (t_X12_good l D k u47 hu h0 m_h0 k_h0 ) (cwV 0 hts gX12_readPerson_X12_good rfl rfl rfl (by decide +kernel) ⟨Nat.le_of_ble_eq_true rfl, Nat.le_of_ble_eq_true rfl⟩) hP hK (precv hK hP m_h0 (cF12 k_h0) rfl) rfl hl.1 rfl (Nat.le_of_ble_eq_true rfl) dX12_readPerson_105 ⟨Nat.le_of_ble_eq_true rfl, Nat.le_of_ble_eq_true rfl⟩ (fun r49 hr49 => ?_)
      refine lv_if_eq (tgt := 121) hx hb dX12_readPerson_108 (by decide) (fun c50 => ?_) (fun c50 => ?_)
      · have eb51 : r49.toInt = 0 := by rcases hr49 with ⟨q, -⟩ | ⟨q, -⟩; exact q; (exact absurd (c50) (fun w => by rw [w] at q; exact absurd q (by decide)))
        have fb51 : (u47.2.2.1 h0 12).toInt ≠ 0 := by rcases hr49 with ⟨q, r⟩ | ⟨q, r⟩; exact r; exact absurd q (by omega)
        clear hr49
        exact W.vret hx hb hr (fun t ht hW => ⟨⟨u47, rfl, ⟨hu, hp, hkl, trivial⟩, by rw [ht]; exact hP, hD⟩, hS.F ht⟩) hS.2.2 dX12_readPerson_121
      · have eb52 : r49.toInt = 1 := by rcases hr49 with ⟨q, -⟩ | ⟨q, -⟩; exact absurd (i_eq.mpr q) c50; exact q
        have fb52 : (u47.2.2.1 h0 12).toInt = 0 := by rcases hr49 with ⟨q, r⟩ | ⟨q, r⟩; exact absurd q (by omega); exact r
        clear hr49
        refine lv_aload_n hx hb dX12_readPerson_111 rfl (lv_at hl 1 rfl) ?_
        refine pget (ci := 12) (v := va_rf (u47.2.2.2.2 h0 14)) (C := RX12) (T := TX12) (N := 34) hx hb hts i_X12 hown hK hP m_h0 (cF12 k_h0) rfl 14 (by decide) (hts (.fieldLink RX12 34 "BellowsRowModel" "fresh" "[I") (by decide +kernel)) (fun _ h9 => h9) rfl dX12_readPerson_112 ?_
        refine W.eq (g2 := F0 m 115 ls [.ref a14]) (by rw [(((hp h0 m0_h0).2.2.2.2.2.1 k0_h0 14).trans q0_14)]; rfl) ?_
        refine lv_iconst (v := 4) hx hb dX12_readPerson_115 (by decide) ?_
        refine lv_dup2_11 hx hb dX12_readPerson_116 rfl rfl ?_
        refine palI hx hb hK hP m_a14 (cF51 k_a14) 1 rfl (vp_in_iff.mpr (by decide)) dX12_readPerson_117 ?_
        refine lv_topi (fun x53 ex53 => ?_)
        have tx53 : x53.toInt = (u47.2.2.1 a14 4).toInt := congrArg Int32.toInt ex53
        have g54 : 0 ≤ x53.toInt ∧ x53.toInt ≤ 12 := by have g : okI (u47.2.1 a14) (4) (u47.2.2.1 a14 (4)) := (hu a14 m_a14).2.2.2 (4); rw [k_a14, ← (show x53 = u47.2.2.1 a14 (4) from ex53)] at g; have g : okW (4) x53 := g; unfold okW at g; (try simp only [i_lt, i_le, i_eq, Int32.toInt_toInt64, Int32.reduceToInt, Int64.reduceToInt, true_and, and_true, false_and, and_false, false_or, or_false, true_or, or_true, not_true_eq_false, not_false_eq_true, ne_eq, forall_const, true_implies, false_implies, implies_true] at hpre tx1 g2 tx3 tx4 w8 hr5 w12 hr9 w14 tx15 er16 w20 tx21 tx22 c23 tx33 w37 hr34 gr34 w39 tx40 tx41 tx42 w46 hr43 gr43 w48 eb52 fb52 tx53 g ⊢) <;> omega
        refine lv_iconst (v := 1) hx hb dX12_readPerson_118 (by decide) ?_
        refine lv_iadd hx hb dX12_readPerson_119 ?_
        refine lv_topi (fun x55 ex55 => ?_)
        have tx55 : x55.toInt = x53.toInt + (1 : Int32).toInt := by rw [ex55]; exact i_add (by (try simp only [i_lt, i_le, i_eq, Int32.toInt_toInt64, Int32.reduceToInt, Int64.reduceToInt, true_and, and_true, false_and, and_false, false_or, or_false, true_or, or_true, not_true_eq_false, not_false_eq_true, ne_eq, forall_const, true_implies, false_implies, implies_true] at hpre tx1 g2 tx3 tx4 w8 hr5 w12 hr9 w14 tx15 er16 w20 tx21 tx22 c23 tx33 w37 hr34 gr34 w39 tx40 tx41 tx42 w46 hr43 gr43 w48 eb52 fb52 tx53 g54 ⊢) <;> omega) (by (try simp only [i_lt, i_le, i_eq, Int32.toInt_toInt64, Int32.reduceToInt, Int64.reduceToInt, true_and, and_true, false_and, and_false, false_or, or_false, true_or, or_true, not_true_eq_false, not_false_eq_true, ne_eq, forall_const, true_implies, false_implies, implies_true] at hpre tx1 g2 tx3 tx4 w8 hr5 w12 hr9 w14 tx15 er16 w20 tx21 tx22 c23 tx33 w37 hr34 gr34 w39 tx40 tx41 tx42 w46 hr43 gr43 w48 eb52 fb52 tx53 g54 ⊢) <;> omega)
        refine pasI (u' := pSI u47 a14 4 x55) hx hb hK hP hD hS m_a14 (cF51 k_a14) 1 rfl (vp_in_iff.mpr (by decide)) rfl (sF51 k_a14 _ _) dX12_readPerson_120 (fun H locs hP hD hS => ?_)
        have hu := WT.setI (a := a14) (s := 4) (v := x55) hu (by rw [k_a14]; exact (show okW 4 x55 from by unfold okW; (try simp only [i_lt, i_le, i_eq, Int32.toInt_toInt64, Int32.reduceToInt, Int64.reduceToInt, true_and, and_true, false_and, and_false, false_or, or_false, true_or, or_true, not_true_eq_false, not_false_eq_true, ne_eq, forall_const, true_implies, false_implies, implies_true] at hpre tx1 g2 tx3 tx4 w8 hr5 w12 hr9 w14 tx15 er16 w20 tx21 tx22 c23 tx33 w37 hr34 gr34 w39 tx40 tx41 tx42 w46 hr43 gr43 w48 eb52 fb52 tx53 g54 tx55 ⊢) <;> omega))
        have hkl := KL.setF (a := a14) (s := 4) (v := x55) hkl (by (try simp only [i_lt, i_le, i_eq, Int32.toInt_toInt64, Int32.reduceToInt, Int64.reduceToInt, true_and, and_true, false_and, and_false, false_or, or_false, true_or, or_true, not_true_eq_false, not_false_eq_true, ne_eq, forall_const, true_implies, false_implies, implies_true] at hpre tx1 g2 tx3 tx4 w8 hr5 w12 hr9 w14 tx15 er16 w20 tx21 tx22 c23 tx33 w37 hr34 gr34 w39 tx40 tx41 tx42 w46 hr43 gr43 w48 eb52 fb52 tx53 g54 tx55 ⊢) <;> omega)
        have hp := PX.setI (a := a14) (s := 4) (v := x55) hp (by rw [k_a14]; decide)
        obtain ⟨u56, hu56⟩ : ∃ z, z = pSI u47 a14 4 x55 := ⟨_, rfl⟩
        rw [← hu56] at hP hD hu hp hkl
        have w57 : (u56.2.2.1 a14 4).toInt = x55.toInt := by rw [hu56]; exact congrArg Int32.toInt (if_pos ⟨rfl, rfl⟩)
        exact W.vret hx hb hr (fun t ht hW => ⟨⟨u56, rfl, ⟨hu, hp, hkl, trivial⟩, by rw [ht]; exact hP, hD⟩, hS.F ht⟩) hS.2.2 dX12_readPerson_121
  · have hkl := KL.trans hkl hp z18.toL
    have hp := PX.trans hp hxu17
    have w58 : (u17.2.2.1 a14 4).toInt = (u13.2.2.1 a14 4).toInt := congrArg Int32.toInt (z18 a14 m_a14 k_a14 4)
    refine lv_if_eq (tgt := 49) hx hb dX12_readPerson_42 (by decide) (fun h => absurd h (by (try simp only [i_lt, i_le, i_eq, Int32.toInt_toInt64, Int32.reduceToInt, Int64.reduceToInt, true_and, and_true, false_and, and_false, false_or, or_false, true_or, or_true, not_true_eq_false, not_false_eq_true, ne_eq, forall_const, true_implies, false_implies, implies_true] at hpre tx1 g2 tx3 tx4 w8 hr5 w12 hr9 w14 tx15 er16 har16 w58 ⊢) <;> omega)) (fun _ => ?_)
    refine lv_iconst (v := 1) hx hb dX12_readPerson_45 (by decide) ?_
    refine lv_goto (tgt := 50) hx hb dX12_readPerson_46 (by decide) ?_
    have k_h0 : u17.2.1 h0 = 12 := (hp h0 m0_h0).2.1.trans k0_h0
    have m_h0 : h0 ∈ u17.1 := (hp h0 m0_h0).1
    have k_a14 : u17.2.1 a14 = 51 := (hp a14 m0_a14).2.1.trans k0_a14
    have m_a14 : a14 ∈ u17.1 := (hp a14 m0_a14).1
    refine pasI (u' := pSI u17 a14 (x15.toNatClampNeg) 1) hx hb hK hP hD hS m_a14 (cF51 k_a14) 1 rfl (vp_in_iff.mpr (by (try simp only [i_lt, i_le, i_eq, Int32.toInt_toInt64, Int32.reduceToInt, Int64.reduceToInt, true_and, and_true, false_and, and_false, false_or, or_false, true_or, or_true, not_true_eq_false, not_false_eq_true, ne_eq, forall_const, true_implies, false_implies, implies_true] at hpre tx1 g2 tx3 tx4 w8 hr5 w12 hr9 w14 tx15 er16 har16 w58 ⊢) <;> omega)) rfl (sF51 k_a14 _ _) dX12_readPerson_50 (fun H locs hP hD hS => ?_)
    have hu := WT.setI (a := a14) (s := (x15.toNatClampNeg)) (v := 1) hu (by rw [k_a14]; exact (show okW (x15.toNatClampNeg) (1 : Int32) from by unfold okW; have z := cl_int (x := x15) (by (try simp only [i_lt, i_le, i_eq, Int32.toInt_toInt64, Int32.reduceToInt, Int64.reduceToInt, true_and, and_true, false_and, and_false, false_or, or_false, true_or, or_true, not_true_eq_false, not_false_eq_true, ne_eq, forall_const, true_implies, false_implies, implies_true] at hpre tx1 g2 tx3 tx4 w8 hr5 w12 hr9 w14 tx15 er16 har16 w58 ⊢) <;> omega); (try simp only [i_lt, i_le, i_eq, Int32.toInt_toInt64, Int32.reduceToInt, Int64.reduceToInt, true_and, and_true, false_and, and_false, false_or, or_false, true_or, or_true, not_true_eq_false, not_false_eq_true, ne_eq, forall_const, true_implies, false_implies, implies_true] at hpre tx1 g2 tx3 tx4 w8 hr5 w12 hr9 w14 tx15 er16 har16 w58 z ⊢) <;> omega))
    have hkl := KL.setF (a := a14) (s := (x15.toNatClampNeg)) (v := 1) hkl (by have z := cl_int (x := x15) (by (try simp only [i_lt, i_le, i_eq, Int32.toInt_toInt64, Int32.reduceToInt, Int64.reduceToInt, true_and, and_true, false_and, and_false, false_or, or_false, true_or, or_true, not_true_eq_false, not_false_eq_true, ne_eq, forall_const, true_implies, false_implies, implies_true] at hpre tx1 g2 tx3 tx4 w8 hr5 w12 hr9 w14 tx15 er16 har16 w58 ⊢) <;> omega); (try simp only [i_lt, i_le, i_eq, Int32.toInt_toInt64, Int32.reduceToInt, Int64.reduceToInt, true_and, and_true, false_and, and_false, false_or, or_false, true_or, or_true, not_true_eq_false, not_false_eq_true, ne_eq, forall_const, true_implies, false_implies, implies_true] at hpre tx1 g2 tx3 tx4 w8 hr5 w12 hr9 w14 tx15 er16 har16 w58 z ⊢) <;> omega)
    have hp := PX.setI (a := a14) (s := (x15.toNatClampNeg)) (v := 1) hp (by rw [k_a14]; decide)
    obtain ⟨u59, hu59⟩ : ∃ z, z = pSI u17 a14 (x15.toNatClampNeg) 1 := ⟨_, rfl⟩
    rw [← hu59] at hP hD hu hp hkl
    have w60 : (u59.2.2.1 a14 4).toInt = (u17.2.2.1 a14 4).toInt := by rw [hu59]; exact congrArg Int32.toInt (if_neg (fun q => by have y := q.2; have z := cl_int (x := x15) (by (try simp only [i_lt, i_le, i_eq, Int32.toInt_toInt64, Int32.reduceToInt, Int64.reduceToInt, true_and, and_true, false_and, and_false, false_or, or_false, true_or, or_true, not_true_eq_false, not_false_eq_true, ne_eq, forall_const, true_implies, false_implies, implies_true] at hpre tx1 g2 tx3 tx4 w8 hr5 w12 hr9 w14 tx15 er16 har16 w58 ⊢) <;> omega); (try simp only [i_lt, i_le, i_eq, Int32.toInt_toInt64, Int32.reduceToInt, Int64.reduceToInt, true_and, and_true, false_and, and_false, false_or, or_false, true_or, or_true, not_true_eq_false, not_false_eq_true, ne_eq, forall_const, true_implies, false_implies, implies_true] at hpre tx1 g2 tx3 tx4 w8 hr5 w12 hr9 w14 tx15 er16 har16 w58 y z ⊢) <;> omega))
    refine lv_aload_n hx hb dX12_readPerson_51 rfl (lv_at hl 1 rfl) ?_
    have k_h0 : u59.2.1 h0 = 12 := (hp h0 m0_h0).2.1.trans k0_h0
    have m_h0 : h0 ∈ u59.1 := (hp h0 m0_h0).1
    have k_a14 : u59.2.1 a14 = 51 := (hp a14 m0_a14).2.1.trans k0_a14
    have m_a14 : a14 ∈ u59.1 := (hp a14 m0_a14).1
    refine pget (ci := 12) (v := va_rf (u59.2.2.2.2 h0 14)) (C := RX12) (T := TX12) (N := 34) hx hb hts i_X12 hown hK hP m_h0 (cF12 k_h0) rfl 14 (by decide) (hts (.fieldLink RX12 34 "BellowsRowModel" "fresh" "[I") (by decide +kernel)) (fun _ h9 => h9) rfl dX12_readPerson_52 ?_
    refine W.eq (g2 := F0 m 55 ls [.ref a14]) (by rw [(((hp h0 m0_h0).2.2.2.2.2.1 k0_h0 14).trans q0_14)]; rfl) ?_
    refine lv_iload_n hx hb dX12_readPerson_55 rfl (lv_at hl 0 rfl) ?_
    refine lv_iconst (v := 1) hx hb dX12_readPerson_56 (by decide) ?_
    refine lv_iadd hx hb dX12_readPerson_57 ?_
    refine lv_topi (fun x61 ex61 => ?_)
    have tx61 : x61.toInt = x4.toInt + (1 : Int32).toInt := by rw [ex61]; exact i_add (by (try simp only [i_lt, i_le, i_eq, Int32.toInt_toInt64, Int32.reduceToInt, Int64.reduceToInt, true_and, and_true, false_and, and_false, false_or, or_false, true_or, or_true, not_true_eq_false, not_false_eq_true, ne_eq, forall_const, true_implies, false_implies, implies_true] at hpre tx1 g2 tx3 tx4 w8 hr5 w12 hr9 w14 tx15 er16 har16 w58 w60 ⊢) <;> omega) (by (try simp only [i_lt, i_le, i_eq, Int32.toInt_toInt64, Int32.reduceToInt, Int64.reduceToInt, true_and, and_true, false_and, and_false, false_or, or_false, true_or, or_true, not_true_eq_false, not_false_eq_true, ne_eq, forall_const, true_implies, false_implies, implies_true] at hpre tx1 g2 tx3 tx4 w8 hr5 w12 hr9 w14 tx15 er16 har16 w58 w60 ⊢) <;> omega)
    refine palI hx hb hK hP m_a14 (cF51 k_a14) 1 rfl (vp_in_iff.mpr (by (try simp only [i_lt, i_le, i_eq, Int32.toInt_toInt64, Int32.reduceToInt, Int64.reduceToInt, true_and, and_true, false_and, and_false, false_or, or_false, true_or, or_true, not_true_eq_false, not_false_eq_true, ne_eq, forall_const, true_implies, false_implies, implies_true] at hpre tx1 g2 tx3 tx4 w8 hr5 w12 hr9 w14 tx15 er16 har16 w58 w60 tx61 ⊢) <;> omega)) dX12_readPerson_58 ?_
    refine lv_topi (fun x62 ex62 => ?_)
    have tx62 : x62.toInt = (u59.2.2.1 a14 (x61.toNatClampNeg)).toInt := congrArg Int32.toInt ex62
    refine lv_iconst (v := 1) hx hb dX12_readPerson_59 (by decide) ?_
    refine lv_icmp_ne (tgt := 104) hx hb dX12_readPerson_60 (by decide) (fun c63 => ?_) (fun c63 => ?_)
    · refine lv_aload_n hx hb dX12_readPerson_104 rfl (lv_at hl 1 rfl) ?_
      refine rvi (C := RX12) (As := []) (rest := []) ⟨hx, hb, hml, hown, hts⟩ (t_X12_good l D k u59 hu h0 m_h0 k_h0 ) (cwV 0 hts gX12_readPerson_X12_good rfl rfl rfl (by decide +kernel) ⟨Nat.le_of_ble_eq_true rfl, Nat.le_of_ble_eq_true rfl⟩) hP hK (precv hK hP m_h0 (cF12 k_h0) rfl) rfl hl.1 rfl (Nat.le_of_ble_eq_true rfl) dX12_readPerson_105 ⟨Nat.le_of_ble_eq_true rfl, Nat.le_of_ble_eq_true rfl⟩ (fun r64 hr64 => ?_)
      refine lv_if_eq (tgt := 121) hx hb dX12_readPerson_108 (by decide) (fun c65 => ?_) (fun c65 => ?_)
      · have eb66 : r64.toInt = 0 := by rcases hr64 with ⟨q, -⟩ | ⟨q, -⟩; exact q; (exact absurd (c65) (fun w => by rw [w] at q; exact absurd q (by decide)))
        have fb66 : (u59.2.2.1 h0 12).toInt ≠ 0 := by rcases hr64 with ⟨q, r⟩ | ⟨q, r⟩; exact r; exact absurd q (by omega)
        clear hr64
        exact W.vret hx hb hr (fun t ht hW => ⟨⟨u59, rfl, ⟨hu, hp, hkl, trivial⟩, by rw [ht]; exact hP, hD⟩, hS.F ht⟩) hS.2.2 dX12_readPerson_121
      · have eb67 : r64.toInt = 1 := by rcases hr64 with ⟨q, -⟩ | ⟨q, -⟩; exact absurd (i_eq.mpr q) c65; exact q
        have fb67 : (u59.2.2.1 h0 12).toInt = 0 := by rcases hr64 with ⟨q, r⟩ | ⟨q, r⟩; exact absurd q (by omega); exact r
        clear hr64
        refine lv_aload_n hx hb dX12_readPerson_111 rfl (lv_at hl 1 rfl) ?_
        refine pget (ci := 12) (v := va_rf (u59.2.2.2.2 h0 14)) (C := RX12) (T := TX12) (N := 34) hx hb hts i_X12 hown hK hP m_h0 (cF12 k_h0) rfl 14 (by decide) (hts (.fieldLink RX12 34 "BellowsRowModel" "fresh" "[I") (by decide +kernel)) (fun _ h9 => h9) rfl dX12_readPerson_112 ?_
        refine W.eq (g2 := F0 m 115 ls [.ref a14]) (by rw [(((hp h0 m0_h0).2.2.2.2.2.1 k0_h0 14).trans q0_14)]; rfl) ?_
        refine lv_iconst (v := 4) hx hb dX12_readPerson_115 (by decide) ?_
        refine lv_dup2_11 hx hb dX12_readPerson_116 rfl rfl ?_
        refine palI hx hb hK hP m_a14 (cF51 k_a14) 1 rfl (vp_in_iff.mpr (by decide)) dX12_readPerson_117 ?_
        refine lv_topi (fun x68 ex68 => ?_)
        have tx68 : x68.toInt = (u59.2.2.1 a14 4).toInt := congrArg Int32.toInt ex68
        have g69 : 0 ≤ x68.toInt ∧ x68.toInt ≤ 12 := by have g : okI (u59.2.1 a14) (4) (u59.2.2.1 a14 (4)) := (hu a14 m_a14).2.2.2 (4); rw [k_a14, ← (show x68 = u59.2.2.1 a14 (4) from ex68)] at g; have g : okW (4) x68 := g; unfold okW at g; (try simp only [i_lt, i_le, i_eq, Int32.toInt_toInt64, Int32.reduceToInt, Int64.reduceToInt, true_and, and_true, false_and, and_false, false_or, or_false, true_or, or_true, not_true_eq_false, not_false_eq_true, ne_eq, forall_const, true_implies, false_implies, implies_true] at hpre tx1 g2 tx3 tx4 w8 hr5 w12 hr9 w14 tx15 er16 har16 w58 w60 tx61 tx62 eb67 fb67 tx68 g ⊢) <;> omega
        refine lv_iconst (v := 1) hx hb dX12_readPerson_118 (by decide) ?_
        refine lv_iadd hx hb dX12_readPerson_119 ?_
        refine lv_topi (fun x70 ex70 => ?_)
        have tx70 : x70.toInt = x68.toInt + (1 : Int32).toInt := by rw [ex70]; exact i_add (by (try simp only [i_lt, i_le, i_eq, Int32.toInt_toInt64, Int32.reduceToInt, Int64.reduceToInt, true_and, and_true, false_and, and_false, false_or, or_false, true_or, or_true, not_true_eq_false, not_false_eq_true, ne_eq, forall_const, true_implies, false_implies, implies_true] at hpre tx1 g2 tx3 tx4 w8 hr5 w12 hr9 w14 tx15 er16 har16 w58 w60 tx61 tx62 eb67 fb67 tx68 g69 ⊢) <;> omega) (by (try simp only [i_lt, i_le, i_eq, Int32.toInt_toInt64, Int32.reduceToInt, Int64.reduceToInt, true_and, and_true, false_and, and_false, false_or, or_false, true_or, or_true, not_true_eq_false, not_false_eq_true, ne_eq, forall_const, true_implies, false_implies, implies_true] at hpre tx1 g2 tx3 tx4 w8 hr5 w12 hr9 w14 tx15 er16 har16 w58 w60 tx61 tx62 eb67 fb67 tx68 g69 ⊢) <;> omega)
        refine pasI (u' := pSI u59 a14 4 x70) hx hb hK hP hD hS m_a14 (cF51 k_a14) 1 rfl (vp_in_iff.mpr (by decide)) rfl (sF51 k_a14 _ _) dX12_readPerson_120 (fun H locs hP hD hS => ?_)
        have hu := WT.setI (a := a14) (s := 4) (v := x70) hu (by rw [k_a14]; exact (show okW 4 x70 from by unfold okW; (try simp only [i_lt, i_le, i_eq, Int32.toInt_toInt64, Int32.reduceToInt, Int64.reduceToInt, true_and, and_true, false_and, and_false, false_or, or_false, true_or, or_true, not_true_eq_false, not_false_eq_true, ne_eq, forall_const, true_implies, false_implies, implies_true] at hpre tx1 g2 tx3 tx4 w8 hr5 w12 hr9 w14 tx15 er16 har16 w58 w60 tx61 tx62 eb67 fb67 tx68 g69 tx70 ⊢) <;> omega))
        have hkl := KL.setF (a := a14) (s := 4) (v := x70) hkl (by (try simp only [i_lt, i_le, i_eq, Int32.toInt_toInt64, Int32.reduceToInt, Int64.reduceToInt, true_and, and_true, false_and, and_false, false_or, or_false, true_or, or_true, not_true_eq_false, not_false_eq_true, ne_eq, forall_const, true_implies, false_implies, implies_true] at hpre tx1 g2 tx3 tx4 w8 hr5 w12 hr9 w14 tx15 er16 har16 w58 w60 tx61 tx62 eb67 fb67 tx68 g69 tx70 ⊢) <;> omega)
        have hp := PX.setI (a := a14) (s := 4) (v := x70) hp (by rw [k_a14]; decide)
        obtain ⟨u71, hu71⟩ : ∃ z, z = pSI u59 a14 4 x70 := ⟨_, rfl⟩
        rw [← hu71] at hP hD hu hp hkl
        have w72 : (u71.2.2.1 a14 4).toInt = x70.toInt := by rw [hu71]; exact congrArg Int32.toInt (if_pos ⟨rfl, rfl⟩)
        exact W.vret hx hb hr (fun t ht hW => ⟨⟨u71, rfl, ⟨hu, hp, hkl, trivial⟩, by rw [ht]; exact hP, hD⟩, hS.F ht⟩) hS.2.2 dX12_readPerson_121
    · refine lv_aload_n hx hb dX12_readPerson_63 rfl (lv_at hl 1 rfl) ?_
      refine pget (ci := 12) (v := va_rf (u59.2.2.2.2 h0 14)) (C := RX12) (T := TX12) (N := 34) hx hb hts i_X12 hown hK hP m_h0 (cF12 k_h0) rfl 14 (by decide) (hts (.fieldLink RX12 34 "BellowsRowModel" "fresh" "[I") (by decide +kernel)) (fun _ h9 => h9) rfl dX12_readPerson_64 ?_
      refine W.eq (g2 := F0 m 67 ls [.ref a14]) (by rw [(((hp h0 m0_h0).2.2.2.2.2.1 k0_h0 14).trans q0_14)]; rfl) ?_
      refine lv_iload_n hx hb dX12_readPerson_67 rfl (lv_at hl 0 rfl) ?_
      refine lv_iconst (v := 2) hx hb dX12_readPerson_68 (by decide) ?_
      refine lv_iadd hx hb dX12_readPerson_69 ?_
      refine lv_topi (fun x73 ex73 => ?_)
      have tx73 : x73.toInt = x4.toInt + (2 : Int32).toInt := by rw [ex73]; exact i_add (by (try simp only [i_lt, i_le, i_eq, Int32.toInt_toInt64, Int32.reduceToInt, Int64.reduceToInt, true_and, and_true, false_and, and_false, false_or, or_false, true_or, or_true, not_true_eq_false, not_false_eq_true, ne_eq, forall_const, true_implies, false_implies, implies_true] at hpre tx1 g2 tx3 tx4 w8 hr5 w12 hr9 w14 tx15 er16 har16 w58 w60 tx61 tx62 c63 ⊢) <;> omega) (by (try simp only [i_lt, i_le, i_eq, Int32.toInt_toInt64, Int32.reduceToInt, Int64.reduceToInt, true_and, and_true, false_and, and_false, false_or, or_false, true_or, or_true, not_true_eq_false, not_false_eq_true, ne_eq, forall_const, true_implies, false_implies, implies_true] at hpre tx1 g2 tx3 tx4 w8 hr5 w12 hr9 w14 tx15 er16 har16 w58 w60 tx61 tx62 c63 ⊢) <;> omega)
      refine lv_aload_n hx hb dX12_readPerson_70 rfl (lv_at hl 1 rfl) ?_
      refine lv_iconst (v := 0) hx hb dX12_readPerson_71 (by decide) ?_
      refine lv_sipush (v := 999) hx hb dX12_readPerson_72 (by decide) ?_
      refine wiV (C := RX12) (As := [.int 0, .int 999]) (rest := [.int x73, .ref a14]) ⟨hx, hb, hml, hown, hts⟩ (fun sz => t_X12_number l D k u59 hu h0 m_h0 k_h0 0 999 sz) (cwV 2 hts gX12_readPerson_X12_number rfl rfl rfl (by decide +kernel) ⟨Nat.le_of_ble_eq_true rfl, Nat.le_of_ble_eq_true rfl⟩) hP hK hD hN hS hA (precv hK hP m_h0 (cF12 k_h0) rfl) rfl hl.1 rfl (Nat.le_of_ble_eq_true rfl) dX12_readPerson_75 ⟨Nat.le_of_ble_eq_true rfl, Nat.le_of_ble_eq_true rfl⟩ (fun r74 u75 H locs hqu75 hP hD hS => ?_)
      obtain ⟨hu, hxu75, z76, hr74⟩ := hqu75
      have hkl := KL.trans hkl hp z76.toL
      have hp := PX.trans hp hxu75
      have w77 : (u75.2.2.1 a14 4).toInt = (u59.2.2.1 a14 4).toInt := congrArg Int32.toInt (z76 a14 m_a14 k_a14 4)
      have gr74 : 0 ≤ r74.toInt ∧ r74.toInt ≤ 999 := by (try simp only [i_lt, i_le, i_eq, Int32.toInt_toInt64, Int32.reduceToInt, Int64.reduceToInt, true_and, and_true, false_and, and_false, false_or, or_false, true_or, or_true, not_true_eq_false, not_false_eq_true, ne_eq, forall_const, true_implies, false_implies, implies_true] at hpre tx1 g2 tx3 tx4 w8 hr5 w12 hr9 w14 tx15 er16 har16 w58 w60 tx61 tx62 c63 tx73 w77 hr74 ⊢) <;> omega
      have k_h0 : u75.2.1 h0 = 12 := (hp h0 m0_h0).2.1.trans k0_h0
      have m_h0 : h0 ∈ u75.1 := (hp h0 m0_h0).1
      have k_a14 : u75.2.1 a14 = 51 := (hp a14 m0_a14).2.1.trans k0_a14
      have m_a14 : a14 ∈ u75.1 := (hp a14 m0_a14).1
      refine pasI (u' := pSI u75 a14 (x73.toNatClampNeg) r74) hx hb hK hP hD hS m_a14 (cF51 k_a14) 1 rfl (vp_in_iff.mpr (by (try simp only [i_lt, i_le, i_eq, Int32.toInt_toInt64, Int32.reduceToInt, Int64.reduceToInt, true_and, and_true, false_and, and_false, false_or, or_false, true_or, or_true, not_true_eq_false, not_false_eq_true, ne_eq, forall_const, true_implies, false_implies, implies_true] at hpre tx1 g2 tx3 tx4 w8 hr5 w12 hr9 w14 tx15 er16 har16 w58 w60 tx61 tx62 c63 tx73 w77 hr74 gr74 ⊢) <;> omega)) rfl (sF51 k_a14 _ _) dX12_readPerson_78 (fun H locs hP hD hS => ?_)
      have hu := WT.setI (a := a14) (s := (x73.toNatClampNeg)) (v := r74) hu (by rw [k_a14]; exact (show okW (x73.toNatClampNeg) r74 from by unfold okW; have z := cl_int (x := x73) (by (try simp only [i_lt, i_le, i_eq, Int32.toInt_toInt64, Int32.reduceToInt, Int64.reduceToInt, true_and, and_true, false_and, and_false, false_or, or_false, true_or, or_true, not_true_eq_false, not_false_eq_true, ne_eq, forall_const, true_implies, false_implies, implies_true] at hpre tx1 g2 tx3 tx4 w8 hr5 w12 hr9 w14 tx15 er16 har16 w58 w60 tx61 tx62 c63 tx73 w77 hr74 gr74 ⊢) <;> omega); (try simp only [i_lt, i_le, i_eq, Int32.toInt_toInt64, Int32.reduceToInt, Int64.reduceToInt, true_and, and_true, false_and, and_false, false_or, or_false, true_or, or_true, not_true_eq_false, not_false_eq_true, ne_eq, forall_const, true_implies, false_implies, implies_true] at hpre tx1 g2 tx3 tx4 w8 hr5 w12 hr9 w14 tx15 er16 har16 w58 w60 tx61 tx62 c63 tx73 w77 hr74 gr74 z ⊢) <;> omega))
      have hkl := KL.setF (a := a14) (s := (x73.toNatClampNeg)) (v := r74) hkl (by have z := cl_int (x := x73) (by (try simp only [i_lt, i_le, i_eq, Int32.toInt_toInt64, Int32.reduceToInt, Int64.reduceToInt, true_and, and_true, false_and, and_false, false_or, or_false, true_or, or_true, not_true_eq_false, not_false_eq_true, ne_eq, forall_const, true_implies, false_implies, implies_true] at hpre tx1 g2 tx3 tx4 w8 hr5 w12 hr9 w14 tx15 er16 har16 w58 w60 tx61 tx62 c63 tx73 w77 hr74 gr74 ⊢) <;> omega); (try simp only [i_lt, i_le, i_eq, Int32.toInt_toInt64, Int32.reduceToInt, Int64.reduceToInt, true_and, and_true, false_and, and_false, false_or, or_false, true_or, or_true, not_true_eq_false, not_false_eq_true, ne_eq, forall_const, true_implies, false_implies, implies_true] at hpre tx1 g2 tx3 tx4 w8 hr5 w12 hr9 w14 tx15 er16 har16 w58 w60 tx61 tx62 c63 tx73 w77 hr74 gr74 z ⊢) <;> omega)
      have hp := PX.setI (a := a14) (s := (x73.toNatClampNeg)) (v := r74) hp (by rw [k_a14]; decide)
      obtain ⟨u78, hu78⟩ : ∃ z, z = pSI u75 a14 (x73.toNatClampNeg) r74 := ⟨_, rfl⟩
      rw [← hu78] at hP hD hu hp hkl
      have w79 : (u78.2.2.1 a14 4).toInt = (u75.2.2.1 a14 4).toInt := by rw [hu78]; exact congrArg Int32.toInt (if_neg (fun q => by have y := q.2; have z := cl_int (x := x73) (by (try simp only [i_lt, i_le, i_eq, Int32.toInt_toInt64, Int32.reduceToInt, Int64.reduceToInt, true_and, and_true, false_and, and_false, false_or, or_false, true_or, or_true, not_true_eq_false, not_false_eq_true, ne_eq, forall_const, true_implies, false_implies, implies_true] at hpre tx1 g2 tx3 tx4 w8 hr5 w12 hr9 w14 tx15 er16 har16 w58 w60 tx61 tx62 c63 tx73 w77 hr74 gr74 ⊢) <;> omega); (try simp only [i_lt, i_le, i_eq, Int32.toInt_toInt64, Int32.reduceToInt, Int64.reduceToInt, true_and, and_true, false_and, and_false, false_or, or_false, true_or, or_true, not_true_eq_false, not_false_eq_true, ne_eq, forall_const, true_implies, false_implies, implies_true] at hpre tx1 g2 tx3 tx4 w8 hr5 w12 hr9 w14 tx15 er16 har16 w58 w60 tx61 tx62 c63 tx73 w77 hr74 gr74 y z ⊢) <;> omega))
      refine lv_aload_n hx hb dX12_readPerson_79 rfl (lv_at hl 1 rfl) ?_
      have k_h0 : u78.2.1 h0 = 12 := (hp h0 m0_h0).2.1.trans k0_h0
      have m_h0 : h0 ∈ u78.1 := (hp h0 m0_h0).1
      have k_a14 : u78.2.1 a14 = 51 := (hp a14 m0_a14).2.1.trans k0_a14
      have m_a14 : a14 ∈ u78.1 := (hp a14 m0_a14).1
      refine pget (ci := 12) (v := va_rf (u78.2.2.2.2 h0 14)) (C := RX12) (T := TX12) (N := 34) hx hb hts i_X12 hown hK hP m_h0 (cF12 k_h0) rfl 14 (by decide) (hts (.fieldLink RX12 34 "BellowsRowModel" "fresh" "[I") (by decide +kernel)) (fun _ h9 => h9) rfl dX12_readPerson_80 ?_
      refine W.eq (g2 := F0 m 83 ls [.ref a14]) (by rw [(((hp h0 m0_h0).2.2.2.2.2.1 k0_h0 14).trans q0_14)]; rfl) ?_
      refine lv_iload_n hx hb dX12_readPerson_83 rfl (lv_at hl 0 rfl) ?_
      refine lv_iconst (v := 3) hx hb dX12_readPerson_84 (by decide) ?_
      refine lv_iadd hx hb dX12_readPerson_85 ?_
      refine lv_topi (fun x80 ex80 => ?_)
      have tx80 : x80.toInt = x4.toInt + (3 : Int32).toInt := by rw [ex80]; exact i_add (by (try simp only [i_lt, i_le, i_eq, Int32.toInt_toInt64, Int32.reduceToInt, Int64.reduceToInt, true_and, and_true, false_and, and_false, false_or, or_false, true_or, or_true, not_true_eq_false, not_false_eq_true, ne_eq, forall_const, true_implies, false_implies, implies_true] at hpre tx1 g2 tx3 tx4 w8 hr5 w12 hr9 w14 tx15 er16 har16 w58 w60 tx61 tx62 c63 tx73 w77 hr74 gr74 w79 ⊢) <;> omega) (by (try simp only [i_lt, i_le, i_eq, Int32.toInt_toInt64, Int32.reduceToInt, Int64.reduceToInt, true_and, and_true, false_and, and_false, false_or, or_false, true_or, or_true, not_true_eq_false, not_false_eq_true, ne_eq, forall_const, true_implies, false_implies, implies_true] at hpre tx1 g2 tx3 tx4 w8 hr5 w12 hr9 w14 tx15 er16 har16 w58 w60 tx61 tx62 c63 tx73 w77 hr74 gr74 w79 ⊢) <;> omega)
      refine lv_aload_n hx hb dX12_readPerson_86 rfl (lv_at hl 1 rfl) ?_
      refine va_ldcS (own := RX12) (tx := "to") (q := tt.1 50) hx hb hown (hE.2.1 (RX12, 196, "to", 50) (by decide +kernel)) dX12_readPerson_87 ?_
      refine lv_aload_n hx hb dX12_readPerson_89 rfl (lv_at hl 1 rfl) ?_
      refine pget (ci := 12) (v := va_rf (u78.2.2.2.2 h0 14)) (C := RX12) (T := TX12) (N := 34) hx hb hts i_X12 hown hK hP m_h0 (cF12 k_h0) rfl 14 (by decide) (hts (.fieldLink RX12 34 "BellowsRowModel" "fresh" "[I") (by decide +kernel)) (fun _ h9 => h9) rfl dX12_readPerson_90 ?_
      refine W.eq (g2 := F0 m 93 ls [.ref a14, .ref (tt.1 50), .ref h0, .int x80, .ref a14]) (by rw [(((hp h0 m0_h0).2.2.2.2.2.1 k0_h0 14).trans q0_14)]; rfl) ?_
      refine lv_iload_n hx hb dX12_readPerson_93 rfl (lv_at hl 0 rfl) ?_
      refine lv_iconst (v := 2) hx hb dX12_readPerson_94 (by decide) ?_
      refine lv_iadd hx hb dX12_readPerson_95 ?_
      refine lv_topi (fun x81 ex81 => ?_)
      have tx81 : x81.toInt = x4.toInt + (2 : Int32).toInt := by rw [ex81]; exact i_add (by (try simp only [i_lt, i_le, i_eq, Int32.toInt_toInt64, Int32.reduceToInt, Int64.reduceToInt, true_and, and_true, false_and, and_false, false_or, or_false, true_or, or_true, not_true_eq_false, not_false_eq_true, ne_eq, forall_const, true_implies, false_implies, implies_true] at hpre tx1 g2 tx3 tx4 w8 hr5 w12 hr9 w14 tx15 er16 har16 w58 w60 tx61 tx62 c63 tx73 w77 hr74 gr74 w79 tx80 ⊢) <;> omega) (by (try simp only [i_lt, i_le, i_eq, Int32.toInt_toInt64, Int32.reduceToInt, Int64.reduceToInt, true_and, and_true, false_and, and_false, false_or, or_false, true_or, or_true, not_true_eq_false, not_false_eq_true, ne_eq, forall_const, true_implies, false_implies, implies_true] at hpre tx1 g2 tx3 tx4 w8 hr5 w12 hr9 w14 tx15 er16 har16 w58 w60 tx61 tx62 c63 tx73 w77 hr74 gr74 w79 tx80 ⊢) <;> omega)
      refine palI hx hb hK hP m_a14 (cF51 k_a14) 1 rfl (vp_in_iff.mpr (by (try simp only [i_lt, i_le, i_eq, Int32.toInt_toInt64, Int32.reduceToInt, Int64.reduceToInt, true_and, and_true, false_and, and_false, false_or, or_false, true_or, or_true, not_true_eq_false, not_false_eq_true, ne_eq, forall_const, true_implies, false_implies, implies_true] at hpre tx1 g2 tx3 tx4 w8 hr5 w12 hr9 w14 tx15 er16 har16 w58 w60 tx61 tx62 c63 tx73 w77 hr74 gr74 w79 tx80 tx81 ⊢) <;> omega)) dX12_readPerson_96 ?_
      refine lv_topi (fun x82 ex82 => ?_)
      have tx82 : x82.toInt = (u78.2.2.1 a14 (x81.toNatClampNeg)).toInt := congrArg Int32.toInt ex82
      refine lv_sipush (v := 999) hx hb dX12_readPerson_97 (by decide) ?_
      refine xiV (C := RX12) (As := [.ref (tt.1 50), .int x82, .int 999]) (rest := [.int x80, .ref a14]) ⟨hx, hb, hml, hown, hts⟩ (fun sz => t_X12_told l D k tt u78 hu h0 m_h0 k_h0 50 (by decide) x82 999 sz) (cwV 3 hts gX12_readPerson_X12_told rfl rfl rfl (by decide +kernel) ⟨Nat.le_of_ble_eq_true rfl, Nat.le_of_ble_eq_true rfl⟩) hP hK hD hN hE hS hA (precv hK hP m_h0 (cF12 k_h0) rfl) rfl hl.1 rfl (Nat.le_of_ble_eq_true rfl) dX12_readPerson_100 ⟨Nat.le_of_ble_eq_true rfl, Nat.le_of_ble_eq_true rfl⟩ (fun r83 u84 H locs hqu84 hP hD hS => ?_)
      obtain ⟨hu, hxu84, z85, hr83⟩ := hqu84
      have hkl := KL.trans hkl hp z85.toL
      have hp := PX.trans hp hxu84
      have w86 : (u84.2.2.1 a14 4).toInt = (u78.2.2.1 a14 4).toInt := congrArg Int32.toInt (z85 a14 m_a14 k_a14 4)
      have gr83 : r83.toInt ≤ 999 := by (try simp only [i_lt, i_le, i_eq, Int32.toInt_toInt64, Int32.reduceToInt, Int64.reduceToInt, true_and, and_true, false_and, and_false, false_or, or_false, true_or, or_true, not_true_eq_false, not_false_eq_true, ne_eq, forall_const, true_implies, false_implies, implies_true] at hpre tx1 g2 tx3 tx4 w8 hr5 w12 hr9 w14 tx15 er16 har16 w58 w60 tx61 tx62 c63 tx73 w77 hr74 gr74 w79 tx80 tx81 tx82 w86 hr83 ⊢) <;> omega
      have k_h0 : u84.2.1 h0 = 12 := (hp h0 m0_h0).2.1.trans k0_h0
      have m_h0 : h0 ∈ u84.1 := (hp h0 m0_h0).1
      have k_a14 : u84.2.1 a14 = 51 := (hp a14 m0_a14).2.1.trans k0_a14
      have m_a14 : a14 ∈ u84.1 := (hp a14 m0_a14).1
      refine pasI (u' := pSI u84 a14 (x80.toNatClampNeg) r83) hx hb hK hP hD hS m_a14 (cF51 k_a14) 1 rfl (vp_in_iff.mpr (by (try simp only [i_lt, i_le, i_eq, Int32.toInt_toInt64, Int32.reduceToInt, Int64.reduceToInt, true_and, and_true, false_and, and_false, false_or, or_false, true_or, or_true, not_true_eq_false, not_false_eq_true, ne_eq, forall_const, true_implies, false_implies, implies_true] at hpre tx1 g2 tx3 tx4 w8 hr5 w12 hr9 w14 tx15 er16 har16 w58 w60 tx61 tx62 c63 tx73 w77 hr74 gr74 w79 tx80 tx81 tx82 w86 hr83 gr83 ⊢) <;> omega)) rfl (sF51 k_a14 _ _) dX12_readPerson_103 (fun H locs hP hD hS => ?_)
      have hu := WT.setI (a := a14) (s := (x80.toNatClampNeg)) (v := r83) hu (by rw [k_a14]; exact (show okW (x80.toNatClampNeg) r83 from by unfold okW; have z := cl_int (x := x80) (by (try simp only [i_lt, i_le, i_eq, Int32.toInt_toInt64, Int32.reduceToInt, Int64.reduceToInt, true_and, and_true, false_and, and_false, false_or, or_false, true_or, or_true, not_true_eq_false, not_false_eq_true, ne_eq, forall_const, true_implies, false_implies, implies_true] at hpre tx1 g2 tx3 tx4 w8 hr5 w12 hr9 w14 tx15 er16 har16 w58 w60 tx61 tx62 c63 tx73 w77 hr74 gr74 w79 tx80 tx81 tx82 w86 hr83 gr83 ⊢) <;> omega); (try simp only [i_lt, i_le, i_eq, Int32.toInt_toInt64, Int32.reduceToInt, Int64.reduceToInt, true_and, and_true, false_and, and_false, false_or, or_false, true_or, or_true, not_true_eq_false, not_false_eq_true, ne_eq, forall_const, true_implies, false_implies, implies_true] at hpre tx1 g2 tx3 tx4 w8 hr5 w12 hr9 w14 tx15 er16 har16 w58 w60 tx61 tx62 c63 tx73 w77 hr74 gr74 w79 tx80 tx81 tx82 w86 hr83 gr83 z ⊢) <;> omega))
      have hkl := KL.setF (a := a14) (s := (x80.toNatClampNeg)) (v := r83) hkl (by have z := cl_int (x := x80) (by (try simp only [i_lt, i_le, i_eq, Int32.toInt_toInt64, Int32.reduceToInt, Int64.reduceToInt, true_and, and_true, false_and, and_false, false_or, or_false, true_or, or_true, not_true_eq_false, not_false_eq_true, ne_eq, forall_const, true_implies, false_implies, implies_true] at hpre tx1 g2 tx3 tx4 w8 hr5 w12 hr9 w14 tx15 er16 har16 w58 w60 tx61 tx62 c63 tx73 w77 hr74 gr74 w79 tx80 tx81 tx82 w86 hr83 gr83 ⊢) <;> omega); (try simp only [i_lt, i_le, i_eq, Int32.toInt_toInt64, Int32.reduceToInt, Int64.reduceToInt, true_and, and_true, false_and, and_false, false_or, or_false, true_or, or_true, not_true_eq_false, not_false_eq_true, ne_eq, forall_const, true_implies, false_implies, implies_true] at hpre tx1 g2 tx3 tx4 w8 hr5 w12 hr9 w14 tx15 er16 har16 w58 w60 tx61 tx62 c63 tx73 w77 hr74 gr74 w79 tx80 tx81 tx82 w86 hr83 gr83 z ⊢) <;> omega)
      have hp := PX.setI (a := a14) (s := (x80.toNatClampNeg)) (v := r83) hp (by rw [k_a14]; decide)
      obtain ⟨u87, hu87⟩ : ∃ z, z = pSI u84 a14 (x80.toNatClampNeg) r83 := ⟨_, rfl⟩
      rw [← hu87] at hP hD hu hp hkl
      have w88 : (u87.2.2.1 a14 4).toInt = (u84.2.2.1 a14 4).toInt := by rw [hu87]; exact congrArg Int32.toInt (if_neg (fun q => by have y := q.2; have z := cl_int (x := x80) (by (try simp only [i_lt, i_le, i_eq, Int32.toInt_toInt64, Int32.reduceToInt, Int64.reduceToInt, true_and, and_true, false_and, and_false, false_or, or_false, true_or, or_true, not_true_eq_false, not_false_eq_true, ne_eq, forall_const, true_implies, false_implies, implies_true] at hpre tx1 g2 tx3 tx4 w8 hr5 w12 hr9 w14 tx15 er16 har16 w58 w60 tx61 tx62 c63 tx73 w77 hr74 gr74 w79 tx80 tx81 tx82 w86 hr83 gr83 ⊢) <;> omega); (try simp only [i_lt, i_le, i_eq, Int32.toInt_toInt64, Int32.reduceToInt, Int64.reduceToInt, true_and, and_true, false_and, and_false, false_or, or_false, true_or, or_true, not_true_eq_false, not_false_eq_true, ne_eq, forall_const, true_implies, false_implies, implies_true] at hpre tx1 g2 tx3 tx4 w8 hr5 w12 hr9 w14 tx15 er16 har16 w58 w60 tx61 tx62 c63 tx73 w77 hr74 gr74 w79 tx80 tx81 tx82 w86 hr83 gr83 y z ⊢) <;> omega))
      refine lv_aload_n hx hb dX12_readPerson_104 rfl (lv_at hl 1 rfl) ?_
      have k_h0 : u87.2.1 h0 = 12 := (hp h0 m0_h0).2.1.trans k0_h0
      have m_h0 : h0 ∈ u87.1 := (hp h0 m0_h0).1
      have k_a14 : u87.2.1 a14 = 51 := (hp a14 m0_a14).2.1.trans k0_a14
      have m_a14 : a14 ∈ u87.1 := (hp a14 m0_a14).1
      refine rvi (C := RX12) (As := []) (rest := []) ⟨hx, hb, hml, hown, hts⟩ (t_X12_good l D k u87 hu h0 m_h0 k_h0 ) (cwV 0 hts gX12_readPerson_X12_good rfl rfl rfl (by decide +kernel) ⟨Nat.le_of_ble_eq_true rfl, Nat.le_of_ble_eq_true rfl⟩) hP hK (precv hK hP m_h0 (cF12 k_h0) rfl) rfl hl.1 rfl (Nat.le_of_ble_eq_true rfl) dX12_readPerson_105 ⟨Nat.le_of_ble_eq_true rfl, Nat.le_of_ble_eq_true rfl⟩ (fun r89 hr89 => ?_)
      refine lv_if_eq (tgt := 121) hx hb dX12_readPerson_108 (by decide) (fun c90 => ?_) (fun c90 => ?_)
      · have eb91 : r89.toInt = 0 := by rcases hr89 with ⟨q, -⟩ | ⟨q, -⟩; exact q; (exact absurd (c90) (fun w => by rw [w] at q; exact absurd q (by decide)))
        have fb91 : (u87.2.2.1 h0 12).toInt ≠ 0 := by rcases hr89 with ⟨q, r⟩ | ⟨q, r⟩; exact r; exact absurd q (by omega)
        clear hr89
        exact W.vret hx hb hr (fun t ht hW => ⟨⟨u87, rfl, ⟨hu, hp, hkl, trivial⟩, by rw [ht]; exact hP, hD⟩, hS.F ht⟩) hS.2.2 dX12_readPerson_121
      · have eb92 : r89.toInt = 1 := by rcases hr89 with ⟨q, -⟩ | ⟨q, -⟩; exact absurd (i_eq.mpr q) c90; exact q
        have fb92 : (u87.2.2.1 h0 12).toInt = 0 := by rcases hr89 with ⟨q, r⟩ | ⟨q, r⟩; exact absurd q (by omega); exact r
        clear hr89
        refine lv_aload_n hx hb dX12_readPerson_111 rfl (lv_at hl 1 rfl) ?_
        refine pget (ci := 12) (v := va_rf (u87.2.2.2.2 h0 14)) (C := RX12) (T := TX12) (N := 34) hx hb hts i_X12 hown hK hP m_h0 (cF12 k_h0) rfl 14 (by decide) (hts (.fieldLink RX12 34 "BellowsRowModel" "fresh" "[I") (by decide +kernel)) (fun _ h9 => h9) rfl dX12_readPerson_112 ?_
        refine W.eq (g2 := F0 m 115 ls [.ref a14]) (by rw [(((hp h0 m0_h0).2.2.2.2.2.1 k0_h0 14).trans q0_14)]; rfl) ?_
        refine lv_iconst (v := 4) hx hb dX12_readPerson_115 (by decide) ?_
        refine lv_dup2_11 hx hb dX12_readPerson_116 rfl rfl ?_
        refine palI hx hb hK hP m_a14 (cF51 k_a14) 1 rfl (vp_in_iff.mpr (by decide)) dX12_readPerson_117 ?_
        refine lv_topi (fun x93 ex93 => ?_)
        have tx93 : x93.toInt = (u87.2.2.1 a14 4).toInt := congrArg Int32.toInt ex93
        have g94 : 0 ≤ x93.toInt ∧ x93.toInt ≤ 12 := by have g : okI (u87.2.1 a14) (4) (u87.2.2.1 a14 (4)) := (hu a14 m_a14).2.2.2 (4); rw [k_a14, ← (show x93 = u87.2.2.1 a14 (4) from ex93)] at g; have g : okW (4) x93 := g; unfold okW at g; (try simp only [i_lt, i_le, i_eq, Int32.toInt_toInt64, Int32.reduceToInt, Int64.reduceToInt, true_and, and_true, false_and, and_false, false_or, or_false, true_or, or_true, not_true_eq_false, not_false_eq_true, ne_eq, forall_const, true_implies, false_implies, implies_true] at hpre tx1 g2 tx3 tx4 w8 hr5 w12 hr9 w14 tx15 er16 har16 w58 w60 tx61 tx62 c63 tx73 w77 hr74 gr74 w79 tx80 tx81 tx82 w86 hr83 gr83 w88 eb92 fb92 tx93 g ⊢) <;> omega
        refine lv_iconst (v := 1) hx hb dX12_readPerson_118 (by decide) ?_
        refine lv_iadd hx hb dX12_readPerson_119 ?_
        refine lv_topi (fun x95 ex95 => ?_)
        have tx95 : x95.toInt = x93.toInt + (1 : Int32).toInt := by rw [ex95]; exact i_add (by (try simp only [i_lt, i_le, i_eq, Int32.toInt_toInt64, Int32.reduceToInt, Int64.reduceToInt, true_and, and_true, false_and, and_false, false_or, or_false, true_or, or_true, not_true_eq_false, not_false_eq_true, ne_eq, forall_const, true_implies, false_implies, implies_true] at hpre tx1 g2 tx3 tx4 w8 hr5 w12 hr9 w14 tx15 er16 har16 w58 w60 tx61 tx62 c63 tx73 w77 hr74 gr74 w79 tx80 tx81 tx82 w86 hr83 gr83 w88 eb92 fb92 tx93 g94 ⊢) <;> omega) (by (try simp only [i_lt, i_le, i_eq, Int32.toInt_toInt64, Int32.reduceToInt, Int64.reduceToInt, true_and, and_true, false_and, and_false, false_or, or_false, true_or, or_true, not_true_eq_false, not_false_eq_true, ne_eq, forall_const, true_implies, false_implies, implies_true] at hpre tx1 g2 tx3 tx4 w8 hr5 w12 hr9 w14 tx15 er16 har16 w58 w60 tx61 tx62 c63 tx73 w77 hr74 gr74 w79 tx80 tx81 tx82 w86 hr83 gr83 w88 eb92 fb92 tx93 g94 ⊢) <;> omega)
        refine pasI (u' := pSI u87 a14 4 x95) hx hb hK hP hD hS m_a14 (cF51 k_a14) 1 rfl (vp_in_iff.mpr (by decide)) rfl (sF51 k_a14 _ _) dX12_readPerson_120 (fun H locs hP hD hS => ?_)
        have hu := WT.setI (a := a14) (s := 4) (v := x95) hu (by rw [k_a14]; exact (show okW 4 x95 from by unfold okW; (try simp only [i_lt, i_le, i_eq, Int32.toInt_toInt64, Int32.reduceToInt, Int64.reduceToInt, true_and, and_true, false_and, and_false, false_or, or_false, true_or, or_true, not_true_eq_false, not_false_eq_true, ne_eq, forall_const, true_implies, false_implies, implies_true] at hpre tx1 g2 tx3 tx4 w8 hr5 w12 hr9 w14 tx15 er16 har16 w58 w60 tx61 tx62 c63 tx73 w77 hr74 gr74 w79 tx80 tx81 tx82 w86 hr83 gr83 w88 eb92 fb92 tx93 g94 tx95 ⊢) <;> omega))
        have hkl := KL.setF (a := a14) (s := 4) (v := x95) hkl (by (try simp only [i_lt, i_le, i_eq, Int32.toInt_toInt64, Int32.reduceToInt, Int64.reduceToInt, true_and, and_true, false_and, and_false, false_or, or_false, true_or, or_true, not_true_eq_false, not_false_eq_true, ne_eq, forall_const, true_implies, false_implies, implies_true] at hpre tx1 g2 tx3 tx4 w8 hr5 w12 hr9 w14 tx15 er16 har16 w58 w60 tx61 tx62 c63 tx73 w77 hr74 gr74 w79 tx80 tx81 tx82 w86 hr83 gr83 w88 eb92 fb92 tx93 g94 tx95 ⊢) <;> omega)
        have hp := PX.setI (a := a14) (s := 4) (v := x95) hp (by rw [k_a14]; decide)
        obtain ⟨u96, hu96⟩ : ∃ z, z = pSI u87 a14 4 x95 := ⟨_, rfl⟩
        rw [← hu96] at hP hD hu hp hkl
        have w97 : (u96.2.2.1 a14 4).toInt = x95.toInt := by rw [hu96]; exact congrArg Int32.toInt (if_pos ⟨rfl, rfl⟩)
        exact W.vret hx hb hr (fun t ht hW => ⟨⟨u96, rfl, ⟨hu, hp, hkl, trivial⟩, by rw [ht]; exact hP, hD⟩, hS.F ht⟩) hS.2.2 dX12_readPerson_121
set_option maxHeartbeats 4000000 in
set_option maxRecDepth 100000 in
theorem t_X12_readRule (l : Launch) (D : va_G) (k : Nat → ClassId) (tt : TT) (u0 : PSt) (hu : WT u0) (h0 : Nat) (m_h0 : h0 ∈ u0.1) (k_h0 : u0.2.1 h0 = 12) (sz : Nat) : Met l yX12_readRule wsX12_readRule ({ frames := 7, cells := 0, slots := 0, locals := 151 }) (PreT D k tt sz (PW k u0) [.ref h0]) (va_Qv (fun v => WT v ∧ PX u0 v ∧ KL u0 v ∧ (True)) (WB D (va_A (PW k u0) sz) (PW k)) (va_A (PW k u0) sz)) 0 0 (va_A (PW k u0) sz) := by
  refine Met.ofW (cc := cX12_readRule) (maxL := 3) (ret := none) (by decide) rfl ?_
  intro p e s m args below meth c s₁ B hml hv
  obtain ⟨rfl, hsz, hP, hK, hD0, hN, hE0⟩ := hv
  have hx := B.exec
  have hb := B.bytes
  have hr := B.returns
  have hts := atoms_spec (ws := wsX12_readRule) B.pre
  have hown : s.vm.findClass RX12 = some m.cls := findClass_of_methodNamed B.named
  have hlocks := B.notSynchronized
  have i_X12 : ∀ w ∈ wsX120, w ∈ wsX12_readRule := by decide +kernel
  obtain ⟨a14, q0_14, m0_a14, k0_a14⟩ := (hu h0 m_h0).1 14 51 (by rw [k_h0]; rfl)
  have m0_h0 := m_h0
  have k0_h0 := k_h0
  have m_a14 := m0_a14
  have k_a14 := k0_a14
  subst hsz
  have hD := hD0.self (sz := s.heap.size)
  have hE := hE0
  generalize hAe : va_A (PW k u0) s.heap.size = A at hD hE ⊢
  have hA : ∀ q : Nat, s.heap.size ≤ q → A q := fun q h => by rw [← hAe]; exact Or.inr h
  have hS : va_S A s.heap s.heap [] := va_S.rf
  have hp : PX u0 u0 := PX.rf
  have hkl : KL u0 u0 := KL.rf
  have hl := lv_entry ([.ref h0]) (n := 3) (Nat.le_of_ble_eq_true rfl)
  rw [lg_entry_eq]
  generalize (lg_sl ([.ref h0]) ++ List.replicate (3 - (lg_sl ([.ref h0])).length) Slot.unset).toArray = ls at hl ⊢
  have hl : lv_has ls 3 [(0, .ref h0)] := hl
  refine lv_aload_n hx hb dX12_readRule_0 rfl (lv_at hl 0 rfl) ?_
  refine lv_aload_n hx hb dX12_readRule_1 rfl (lv_at hl 0 rfl) ?_
  refine xiV (C := RX12) (As := []) (rest := [.ref h0]) ⟨hx, hb, hml, hown, hts⟩ (fun sz => t_X12_kindHere l D k tt u0 hu h0 m_h0 k_h0  sz) (cwV 0 hts gX12_readRule_X12_kindHere rfl rfl rfl (by decide +kernel) ⟨Nat.le_of_ble_eq_true rfl, Nat.le_of_ble_eq_true rfl⟩) hP hK hD hN hE hS hA (precv hK hP m_h0 (cF12 k_h0) rfl) rfl hl.1 rfl (Nat.le_of_ble_eq_true rfl) dX12_readRule_2 ⟨Nat.le_of_ble_eq_true rfl, Nat.le_of_ble_eq_true rfl⟩ (fun r1 u2 H locs hqu2 hP hD hS => ?_)
  obtain ⟨hu, hxu2, hr1⟩ := hqu2
  have sameu2 : u0 = u2 := hr1.1.symm
  subst sameu2
  have hr1 := hr1.2
  refine wiV (C := RX12) (As := [.int r1]) (rest := []) ⟨hx, hb, hml, hown, hts⟩ (fun sz => t_X12_taken l D k u0 hu h0 m_h0 k_h0 r1 sz) (cwV 1 hts gX12_readRule_X12_taken rfl rfl rfl (by decide +kernel) ⟨Nat.le_of_ble_eq_true rfl, Nat.le_of_ble_eq_true rfl⟩) hP hK hD hN hS hA (precv hK hP m_h0 (cF12 k_h0) rfl) rfl hl.1 rfl (Nat.le_of_ble_eq_true rfl) dX12_readRule_5 ⟨Nat.le_of_ble_eq_true rfl, Nat.le_of_ble_eq_true rfl⟩ (fun r3 u4 H locs hqu4 hP hD hS => ?_)
  obtain ⟨hu, hxu4, z5, hr3⟩ := hqu4
  have hkl := KL.trans hkl hp z5.toL
  have hp := PX.trans hp hxu4
  refine lv_istore_n (lv' := [(1, .int r3), (0, .ref h0)]) hx hb dX12_readRule_8 rfl hl (by decide) rfl (fun ls hl => ?_)
  refine lv_aload_n hx hb dX12_readRule_9 rfl (lv_at hl 1 rfl) ?_
  refine va_ldcS (own := RX12) (tx := "asks") (q := tt.1 64) hx hb hown (hE.2.1 (RX12, 245, "asks", 64) (by decide +kernel)) dX12_readRule_10 ?_
  have k_h0 : u4.2.1 h0 = 12 := (hp h0 m0_h0).2.1.trans k0_h0
  have m_h0 : h0 ∈ u4.1 := (hp h0 m0_h0).1
  refine xvV (C := RX12) (As := [.ref (tt.1 64)]) (rest := []) ⟨hx, hb, hml, hown, hts⟩ (fun sz => t_X12_needsWord l D k tt u4 hu h0 m_h0 k_h0 64 (by decide) sz) (cwV 1 hts gX12_readRule_X12_needsWord rfl rfl rfl (by decide +kernel) ⟨Nat.le_of_ble_eq_true rfl, Nat.le_of_ble_eq_true rfl⟩) hP hK hD hN hE hS hA (precv hK hP m_h0 (cF12 k_h0) rfl) rfl hl.1 rfl (Nat.le_of_ble_eq_true rfl) dX12_readRule_12 ⟨Nat.le_of_ble_eq_true rfl, Nat.le_of_ble_eq_true rfl⟩ (fun u7 H locs hqu7 hP hD hS => ?_)
  obtain ⟨hu, hxu7, z8, hr6⟩ := hqu7
  have hkl := KL.trans hkl hp z8.toL
  have hp := PX.trans hp hxu7
  refine lv_aload_n hx hb dX12_readRule_15 rfl (lv_at hl 1 rfl) ?_
  have k_h0 : u7.2.1 h0 = 12 := (hp h0 m0_h0).2.1.trans k0_h0
  have m_h0 : h0 ∈ u7.1 := (hp h0 m0_h0).1
  refine xiV (C := RX12) (As := []) (rest := []) ⟨hx, hb, hml, hown, hts⟩ (fun sz => t_X12_subjects l D k tt u7 hu h0 m_h0 k_h0  sz) (cwV 0 hts gX12_readRule_X12_subjects rfl rfl rfl (by decide +kernel) ⟨Nat.le_of_ble_eq_true rfl, Nat.le_of_ble_eq_true rfl⟩) hP hK hD hN hE hS hA (precv hK hP m_h0 (cF12 k_h0) rfl) rfl hl.1 rfl (Nat.le_of_ble_eq_true rfl) dX12_readRule_16 ⟨Nat.le_of_ble_eq_true rfl, Nat.le_of_ble_eq_true rfl⟩ (fun r9 u10 H locs hqu10 hP hD hS => ?_)
  obtain ⟨hu, hxu10, z11, hr9⟩ := hqu10
  have hkl := KL.trans hkl hp z11.toL
  have hp := PX.trans hp hxu10
  refine lv_istore_n (lv' := [(2, .int r9), (1, .int r3), (0, .ref h0)]) hx hb dX12_readRule_19 rfl hl (by decide) rfl (fun ls hl => ?_)
  refine lv_aload_n hx hb dX12_readRule_20 rfl (lv_at hl 2 rfl) ?_
  have k_h0 : u10.2.1 h0 = 12 := (hp h0 m0_h0).2.1.trans k0_h0
  have m_h0 : h0 ∈ u10.1 := (hp h0 m0_h0).1
  refine rvi (C := RX12) (As := []) (rest := []) ⟨hx, hb, hml, hown, hts⟩ (t_X12_good l D k u10 hu h0 m_h0 k_h0 ) (cwV 0 hts gX12_readRule_X12_good rfl rfl rfl (by decide +kernel) ⟨Nat.le_of_ble_eq_true rfl, Nat.le_of_ble_eq_true rfl⟩) hP hK (precv hK hP m_h0 (cF12 k_h0) rfl) rfl hl.1 rfl (Nat.le_of_ble_eq_true rfl) dX12_readRule_21 ⟨Nat.le_of_ble_eq_true rfl, Nat.le_of_ble_eq_true rfl⟩ (fun r12 hr12 => ?_)
  refine lv_if_eq (tgt := 42) hx hb dX12_readRule_24 (by decide) (fun c13 => ?_) (fun c13 => ?_)
  · have eb14 : r12.toInt = 0 := by rcases hr12 with ⟨q, -⟩ | ⟨q, -⟩; exact q; (exact absurd (c13) (fun w => by rw [w] at q; exact absurd q (by decide)))
    have fb14 : (u10.2.2.1 h0 12).toInt ≠ 0 := by rcases hr12 with ⟨q, r⟩ | ⟨q, r⟩; exact r; exact absurd q (by omega)
    clear hr12
    exact W.vret hx hb hr (fun t ht hW => ⟨⟨u10, rfl, ⟨hu, hp, hkl, trivial⟩, by rw [ht]; exact hP, hD⟩, hS.F ht⟩) hS.2.2 dX12_readRule_42
  · have eb15 : r12.toInt = 1 := by rcases hr12 with ⟨q, -⟩ | ⟨q, -⟩; exact absurd (i_eq.mpr q) c13; exact q
    have fb15 : (u10.2.2.1 h0 12).toInt = 0 := by rcases hr12 with ⟨q, r⟩ | ⟨q, r⟩; exact absurd q (by omega); exact r
    clear hr12
    refine lv_aload_n hx hb dX12_readRule_27 rfl (lv_at hl 2 rfl) ?_
    have k_a14 : u10.2.1 a14 = 51 := (hp a14 m0_a14).2.1.trans k0_a14
    have m_a14 : a14 ∈ u10.1 := (hp a14 m0_a14).1
    refine pget (ci := 12) (v := va_rf (u10.2.2.2.2 h0 14)) (C := RX12) (T := TX12) (N := 34) hx hb hts i_X12 hown hK hP m_h0 (cF12 k_h0) rfl 14 (by decide) (hts (.fieldLink RX12 34 "BellowsRowModel" "fresh" "[I") (by decide +kernel)) (fun _ h9 => h9) rfl dX12_readRule_28 ?_
    refine W.eq (g2 := F0 m 31 ls [.ref a14]) (by rw [(((hp h0 m0_h0).2.2.2.2.2.1 k0_h0 14).trans q0_14)]; rfl) ?_
    refine lv_bipush (v := 9) hx hb dX12_readRule_31 (by decide) ?_
    refine lv_dup2_11 hx hb dX12_readRule_33 rfl rfl ?_
    refine palI hx hb hK hP m_a14 (cF51 k_a14) 1 rfl (vp_in_iff.mpr (by decide)) dX12_readRule_34 ?_
    refine lv_topi (fun x16 ex16 => ?_)
    have tx16 : x16.toInt = (u10.2.2.1 a14 9).toInt := congrArg Int32.toInt ex16
    refine lv_iload_n hx hb dX12_readRule_35 rfl (lv_at hl 0 rfl) ?_
    refine lv_iconst (v := 4) hx hb dX12_readRule_36 (by decide) ?_
    refine lv_iload_n hx hb dX12_readRule_37 rfl (lv_at hl 1 rfl) ?_
    refine lv_imul hx hb dX12_readRule_38 ?_
    refine lv_topi (fun x17 ex17 => ?_)
    refine lv_ishl hx hb dX12_readRule_39 ?_
    refine lv_topi (fun x18 ex18 => ?_)
    refine lv_ior hx hb dX12_readRule_40 ?_
    refine lv_topi (fun x19 ex19 => ?_)
    refine pasI (u' := pSI u10 a14 9 x19) hx hb hK hP hD hS m_a14 (cF51 k_a14) 1 rfl (vp_in_iff.mpr (by decide)) rfl (sF51 k_a14 _ _) dX12_readRule_41 (fun H locs hP hD hS => ?_)
    have hu := WT.setI (a := a14) (s := 9) (v := x19) hu (by rw [k_a14]; exact (show okW 9 x19 from by unfold okW; (try simp only [i_lt, i_le, i_eq, Int32.toInt_toInt64, Int32.reduceToInt, Int64.reduceToInt, true_and, and_true, false_and, and_false, false_or, or_false, true_or, or_true, not_true_eq_false, not_false_eq_true, ne_eq, forall_const, true_implies, false_implies, implies_true] at hr1 hr3 hr6 hr9 eb15 fb15 tx16 ⊢) <;> omega))
    have hkl := KL.setF (a := a14) (s := 9) (v := x19) hkl (by (try simp only [i_lt, i_le, i_eq, Int32.toInt_toInt64, Int32.reduceToInt, Int64.reduceToInt, true_and, and_true, false_and, and_false, false_or, or_false, true_or, or_true, not_true_eq_false, not_false_eq_true, ne_eq, forall_const, true_implies, false_implies, implies_true] at hr1 hr3 hr6 hr9 eb15 fb15 tx16 ⊢) <;> omega)
    have hp := PX.setI (a := a14) (s := 9) (v := x19) hp (by rw [k_a14]; decide)
    obtain ⟨u20, hu20⟩ : ∃ z, z = pSI u10 a14 9 x19 := ⟨_, rfl⟩
    rw [← hu20] at hP hD hu hp hkl
    exact W.vret hx hb hr (fun t ht hW => ⟨⟨u20, rfl, ⟨hu, hp, hkl, trivial⟩, by rw [ht]; exact hP, hD⟩, hS.F ht⟩) hS.2.2 dX12_readRule_42
set_option maxHeartbeats 4000000 in
set_option maxRecDepth 100000 in
theorem t_X12_readChange (l : Launch) (D : va_G) (k : Nat → ClassId) (tt : TT) (u0 : PSt) (hu : WT u0) (h0 : Nat) (m_h0 : h0 ∈ u0.1) (k_h0 : u0.2.1 h0 = 12) (hpre : (u0.2.2.1 (ar u0 h0 14) 5).toInt ≤ 19) (sz : Nat) : Met l yX12_readChange wsX12_readChange ({ frames := 8, cells := 0, slots := 0, locals := 174 }) (PreT D k tt sz (PW k u0) [.ref h0]) (va_Qv (fun v => WT v ∧ PX u0 v ∧ KL u0 v ∧ (True)) (WB D (va_A (PW k u0) sz) (PW k)) (va_A (PW k u0) sz)) 0 0 (va_A (PW k u0) sz) := by
  refine Met.ofW (cc := cX12_readChange) (maxL := 2) (ret := none) (by decide) rfl ?_
  intro p e s m args below meth c s₁ B hml hv
  obtain ⟨rfl, hsz, hP, hK, hD0, hN, hE0⟩ := hv
  have hx := B.exec
  have hb := B.bytes
  have hr := B.returns
  have hts := atoms_spec (ws := wsX12_readChange) B.pre
  have hown : s.vm.findClass RX12 = some m.cls := findClass_of_methodNamed B.named
  have hlocks := B.notSynchronized
  have i_X12 : ∀ w ∈ wsX120, w ∈ wsX12_readChange := by decide +kernel
  obtain ⟨a14, q0_14, m0_a14, k0_a14⟩ := (hu h0 m_h0).1 14 51 (by rw [k_h0]; rfl)
  have m0_h0 := m_h0
  have k0_h0 := k_h0
  have m_a14 := m0_a14
  have k_a14 := k0_a14
  subst hsz
  have hD := hD0.self (sz := s.heap.size)
  have hE := hE0
  generalize hAe : va_A (PW k u0) s.heap.size = A at hD hE ⊢
  have hA : ∀ q : Nat, s.heap.size ≤ q → A q := fun q h => by rw [← hAe]; exact Or.inr h
  have hS : va_S A s.heap s.heap [] := va_S.rf
  have hp : PX u0 u0 := PX.rf
  have hkl : KL u0 u0 := KL.rf
  simp only [ar_eq q0_14] at hpre
  have hl := lv_entry ([.ref h0]) (n := 2) (Nat.le_of_ble_eq_true rfl)
  rw [lg_entry_eq]
  generalize (lg_sl ([.ref h0]) ++ List.replicate (2 - (lg_sl ([.ref h0])).length) Slot.unset).toArray = ls at hl ⊢
  have hl : lv_has ls 2 [(0, .ref h0)] := hl
  refine lv_sipush (v := 422) hx hb dX12_readChange_0 (by decide) ?_
  refine lv_iconst (v := 3) hx hb dX12_readChange_3 (by decide) ?_
  refine lv_aload_n hx hb dX12_readChange_4 rfl (lv_at hl 0 rfl) ?_
  refine pget (ci := 12) (v := va_rf (u0.2.2.2.2 h0 14)) (C := RX12) (T := TX12) (N := 34) hx hb hts i_X12 hown hK hP m_h0 (cF12 k_h0) rfl 14 (by decide) (hts (.fieldLink RX12 34 "BellowsRowModel" "fresh" "[I") (by decide +kernel)) (fun _ h9 => h9) rfl dX12_readChange_5 ?_
  refine W.eq (g2 := F0 m 8 ls [.ref a14, .int 3, .int 422]) (by rw [(((hp h0 m0_h0).2.2.2.2.2.1 k0_h0 14).trans q0_14)]; rfl) ?_
  refine lv_iconst (v := 5) hx hb dX12_readChange_8 (by decide) ?_
  refine palI hx hb hK hP m_a14 (cF51 k_a14) 1 rfl (vp_in_iff.mpr (by decide)) dX12_readChange_9 ?_
  refine lv_topi (fun x1 ex1 => ?_)
  have tx1 : x1.toInt = (u0.2.2.1 a14 5).toInt := congrArg Int32.toInt ex1
  have g2 : 0 ≤ x1.toInt ∧ x1.toInt ≤ 20 := by have g : okI (u0.2.1 a14) (5) (u0.2.2.1 a14 (5)) := (hu a14 m_a14).2.2.2 (5); rw [k_a14, ← (show x1 = u0.2.2.1 a14 (5) from ex1)] at g; have g : okW (5) x1 := g; unfold okW at g; (try simp only [i_lt, i_le, i_eq, Int32.toInt_toInt64, Int32.reduceToInt, Int64.reduceToInt, true_and, and_true, false_and, and_false, false_or, or_false, true_or, or_true, not_true_eq_false, not_false_eq_true, ne_eq, forall_const, true_implies, false_implies, implies_true] at hpre tx1 g ⊢) <;> omega
  refine lv_imul hx hb dX12_readChange_10 ?_
  refine lv_topi (fun x3 ex3 => ?_)
  have tx3 : x3.toInt = 3 * x1.toInt := by rw [ex3]; exact i_mulc (c := 3) (by decide) ((show 0 ≤ x1.toInt ∧ x1.toInt ≤ 20 from by (try simp only [i_lt, i_le, i_eq, Int32.toInt_toInt64, Int32.reduceToInt, Int64.reduceToInt, true_and, and_true, false_and, and_false, false_or, or_false, true_or, or_true, not_true_eq_false, not_false_eq_true, ne_eq, forall_const, true_implies, false_implies, implies_true] at hpre tx1 g2 ⊢) <;> omega)) (by decide)
  refine lv_iadd hx hb dX12_readChange_11 ?_
  refine lv_topi (fun x4 ex4 => ?_)
  have tx4 : x4.toInt = (422 : Int32).toInt + x3.toInt := by rw [ex4]; exact i_add (by (try simp only [i_lt, i_le, i_eq, Int32.toInt_toInt64, Int32.reduceToInt, Int64.reduceToInt, true_and, and_true, false_and, and_false, false_or, or_false, true_or, or_true, not_true_eq_false, not_false_eq_true, ne_eq, forall_const, true_implies, false_implies, implies_true] at hpre tx1 g2 tx3 ⊢) <;> omega) (by (try simp only [i_lt, i_le, i_eq, Int32.toInt_toInt64, Int32.reduceToInt, Int64.reduceToInt, true_and, and_true, false_and, and_false, false_or, or_false, true_or, or_true, not_true_eq_false, not_false_eq_true, ne_eq, forall_const, true_implies, false_implies, implies_true] at hpre tx1 g2 tx3 ⊢) <;> omega)
  refine lv_istore_n (lv' := [(1, .int x4), (0, .ref h0)]) hx hb dX12_readChange_12 rfl hl (by decide) rfl (fun ls hl => ?_)
  refine lv_aload_n hx hb dX12_readChange_13 rfl (lv_at hl 1 rfl) ?_
  refine pget (ci := 12) (v := va_rf (u0.2.2.2.2 h0 14)) (C := RX12) (T := TX12) (N := 34) hx hb hts i_X12 hown hK hP m_h0 (cF12 k_h0) rfl 14 (by decide) (hts (.fieldLink RX12 34 "BellowsRowModel" "fresh" "[I") (by decide +kernel)) (fun _ h9 => h9) rfl dX12_readChange_14 ?_
  refine W.eq (g2 := F0 m 17 ls [.ref a14]) (by rw [(((hp h0 m0_h0).2.2.2.2.2.1 k0_h0 14).trans q0_14)]; rfl) ?_
  refine lv_iload_n hx hb dX12_readChange_17 rfl (lv_at hl 0 rfl) ?_
  refine lv_aload_n hx hb dX12_readChange_18 rfl (lv_at hl 1 rfl) ?_
  refine lv_aload_n hx hb dX12_readChange_19 rfl (lv_at hl 1 rfl) ?_
  refine xiV (C := RX12) (As := []) (rest := [.ref h0, .int x4, .ref a14]) ⟨hx, hb, hml, hown, hts⟩ (fun sz => t_X12_kindHere l D k tt u0 hu h0 m_h0 k_h0  sz) (cwV 0 hts gX12_readChange_X12_kindHere rfl rfl rfl (by decide +kernel) ⟨Nat.le_of_ble_eq_true rfl, Nat.le_of_ble_eq_true rfl⟩) hP hK hD hN hE hS hA (precv hK hP m_h0 (cF12 k_h0) rfl) rfl hl.1 rfl (Nat.le_of_ble_eq_true rfl) dX12_readChange_20 ⟨Nat.le_of_ble_eq_true rfl, Nat.le_of_ble_eq_true rfl⟩ (fun r5 u6 H locs hqu6 hP hD hS => ?_)
  obtain ⟨hu, hxu6, hr5⟩ := hqu6
  have sameu6 : u0 = u6 := hr5.1.symm
  subst sameu6
  have hr5 := hr5.2
  refine wiV (C := RX12) (As := [.int r5]) (rest := [.int x4, .ref a14]) ⟨hx, hb, hml, hown, hts⟩ (fun sz => t_X12_taken l D k u0 hu h0 m_h0 k_h0 r5 sz) (cwV 1 hts gX12_readChange_X12_taken rfl rfl rfl (by decide +kernel) ⟨Nat.le_of_ble_eq_true rfl, Nat.le_of_ble_eq_true rfl⟩) hP hK hD hN hS hA (precv hK hP m_h0 (cF12 k_h0) rfl) rfl hl.1 rfl (Nat.le_of_ble_eq_true rfl) dX12_readChange_23 ⟨Nat.le_of_ble_eq_true rfl, Nat.le_of_ble_eq_true rfl⟩ (fun r7 u8 H locs hqu8 hP hD hS => ?_)
  obtain ⟨hu, hxu8, z9, hr7⟩ := hqu8
  have hkl := KL.trans hkl hp z9.toL
  have hp := PX.trans hp hxu8
  have w10 : (u8.2.2.1 a14 5).toInt = (u0.2.2.1 a14 5).toInt := congrArg Int32.toInt (z9 a14 m_a14 k_a14 5)
  have k_h0 : u8.2.1 h0 = 12 := (hp h0 m0_h0).2.1.trans k0_h0
  have m_h0 : h0 ∈ u8.1 := (hp h0 m0_h0).1
  have k_a14 : u8.2.1 a14 = 51 := (hp a14 m0_a14).2.1.trans k0_a14
  have m_a14 : a14 ∈ u8.1 := (hp a14 m0_a14).1
  refine pasI (u' := pSI u8 a14 (x4.toNatClampNeg) r7) hx hb hK hP hD hS m_a14 (cF51 k_a14) 1 rfl (vp_in_iff.mpr (by (try simp only [i_lt, i_le, i_eq, Int32.toInt_toInt64, Int32.reduceToInt, Int64.reduceToInt, true_and, and_true, false_and, and_false, false_or, or_false, true_or, or_true, not_true_eq_false, not_false_eq_true, ne_eq, forall_const, true_implies, false_implies, implies_true] at hpre tx1 g2 tx3 tx4 hr5 w10 hr7 ⊢) <;> omega)) rfl (sF51 k_a14 _ _) dX12_readChange_26 (fun H locs hP hD hS => ?_)
  have hu := WT.setI (a := a14) (s := (x4.toNatClampNeg)) (v := r7) hu (by rw [k_a14]; exact (show okW (x4.toNatClampNeg) r7 from by unfold okW; have z := cl_int (x := x4) (by (try simp only [i_lt, i_le, i_eq, Int32.toInt_toInt64, Int32.reduceToInt, Int64.reduceToInt, true_and, and_true, false_and, and_false, false_or, or_false, true_or, or_true, not_true_eq_false, not_false_eq_true, ne_eq, forall_const, true_implies, false_implies, implies_true] at hpre tx1 g2 tx3 tx4 hr5 w10 hr7 ⊢) <;> omega); (try simp only [i_lt, i_le, i_eq, Int32.toInt_toInt64, Int32.reduceToInt, Int64.reduceToInt, true_and, and_true, false_and, and_false, false_or, or_false, true_or, or_true, not_true_eq_false, not_false_eq_true, ne_eq, forall_const, true_implies, false_implies, implies_true] at hpre tx1 g2 tx3 tx4 hr5 w10 hr7 z ⊢) <;> omega))
  have hkl := KL.setF (a := a14) (s := (x4.toNatClampNeg)) (v := r7) hkl (by have z := cl_int (x := x4) (by (try simp only [i_lt, i_le, i_eq, Int32.toInt_toInt64, Int32.reduceToInt, Int64.reduceToInt, true_and, and_true, false_and, and_false, false_or, or_false, true_or, or_true, not_true_eq_false, not_false_eq_true, ne_eq, forall_const, true_implies, false_implies, implies_true] at hpre tx1 g2 tx3 tx4 hr5 w10 hr7 ⊢) <;> omega); (try simp only [i_lt, i_le, i_eq, Int32.toInt_toInt64, Int32.reduceToInt, Int64.reduceToInt, true_and, and_true, false_and, and_false, false_or, or_false, true_or, or_true, not_true_eq_false, not_false_eq_true, ne_eq, forall_const, true_implies, false_implies, implies_true] at hpre tx1 g2 tx3 tx4 hr5 w10 hr7 z ⊢) <;> omega)
  have hp := PX.setI (a := a14) (s := (x4.toNatClampNeg)) (v := r7) hp (by rw [k_a14]; decide)
  obtain ⟨u11, hu11⟩ : ∃ z, z = pSI u8 a14 (x4.toNatClampNeg) r7 := ⟨_, rfl⟩
  rw [← hu11] at hP hD hu hp hkl
  have w12 : (u11.2.2.1 a14 5).toInt = (u8.2.2.1 a14 5).toInt := by rw [hu11]; exact congrArg Int32.toInt (if_neg (fun q => by have y := q.2; have z := cl_int (x := x4) (by (try simp only [i_lt, i_le, i_eq, Int32.toInt_toInt64, Int32.reduceToInt, Int64.reduceToInt, true_and, and_true, false_and, and_false, false_or, or_false, true_or, or_true, not_true_eq_false, not_false_eq_true, ne_eq, forall_const, true_implies, false_implies, implies_true] at hpre tx1 g2 tx3 tx4 hr5 w10 hr7 ⊢) <;> omega); (try simp only [i_lt, i_le, i_eq, Int32.toInt_toInt64, Int32.reduceToInt, Int64.reduceToInt, true_and, and_true, false_and, and_false, false_or, or_false, true_or, or_true, not_true_eq_false, not_false_eq_true, ne_eq, forall_const, true_implies, false_implies, implies_true] at hpre tx1 g2 tx3 tx4 hr5 w10 hr7 y z ⊢) <;> omega))
  refine lv_aload_n hx hb dX12_readChange_27 rfl (lv_at hl 1 rfl) ?_
  have k_h0 : u11.2.1 h0 = 12 := (hp h0 m0_h0).2.1.trans k0_h0
  have m_h0 : h0 ∈ u11.1 := (hp h0 m0_h0).1
  have k_a14 : u11.2.1 a14 = 51 := (hp a14 m0_a14).2.1.trans k0_a14
  have m_a14 : a14 ∈ u11.1 := (hp a14 m0_a14).1
  refine pget (ci := 12) (v := va_rf (u11.2.2.2.2 h0 14)) (C := RX12) (T := TX12) (N := 34) hx hb hts i_X12 hown hK hP m_h0 (cF12 k_h0) rfl 14 (by decide) (hts (.fieldLink RX12 34 "BellowsRowModel" "fresh" "[I") (by decide +kernel)) (fun _ h9 => h9) rfl dX12_readChange_28 ?_
  refine W.eq (g2 := F0 m 31 ls [.ref a14]) (by rw [(((hp h0 m0_h0).2.2.2.2.2.1 k0_h0 14).trans q0_14)]; rfl) ?_
  refine lv_iload_n hx hb dX12_readChange_31 rfl (lv_at hl 0 rfl) ?_
  refine lv_iconst (v := 1) hx hb dX12_readChange_32 (by decide) ?_
  refine lv_iadd hx hb dX12_readChange_33 ?_
  refine lv_topi (fun x13 ex13 => ?_)
  have tx13 : x13.toInt = x4.toInt + (1 : Int32).toInt := by rw [ex13]; exact i_add (by (try simp only [i_lt, i_le, i_eq, Int32.toInt_toInt64, Int32.reduceToInt, Int64.reduceToInt, true_and, and_true, false_and, and_false, false_or, or_false, true_or, or_true, not_true_eq_false, not_false_eq_true, ne_eq, forall_const, true_implies, false_implies, implies_true] at hpre tx1 g2 tx3 tx4 hr5 w10 hr7 w12 ⊢) <;> omega) (by (try simp only [i_lt, i_le, i_eq, Int32.toInt_toInt64, Int32.reduceToInt, Int64.reduceToInt, true_and, and_true, false_and, and_false, false_or, or_false, true_or, or_true, not_true_eq_false, not_false_eq_true, ne_eq, forall_const, true_implies, false_implies, implies_true] at hpre tx1 g2 tx3 tx4 hr5 w10 hr7 w12 ⊢) <;> omega)
  refine lv_aload_n hx hb dX12_readChange_34 rfl (lv_at hl 1 rfl) ?_
  refine va_ldcS (own := RX12) (tx := "day") (q := tt.1 59) hx hb hown (hE.2.1 (RX12, 229, "day", 59) (by decide +kernel)) dX12_readChange_35 ?_
  refine lv_iconst (v := 0) hx hb dX12_readChange_37 (by decide) ?_
  refine lv_sipush (v := 999) hx hb dX12_readChange_38 (by decide) ?_
  refine xiV (C := RX12) (As := [.ref (tt.1 59), .int 0, .int 999]) (rest := [.int x13, .ref a14]) ⟨hx, hb, hml, hown, hts⟩ (fun sz => t_X12_told l D k tt u11 hu h0 m_h0 k_h0 59 (by decide) 0 999 sz) (cwV 3 hts gX12_readChange_X12_told rfl rfl rfl (by decide +kernel) ⟨Nat.le_of_ble_eq_true rfl, Nat.le_of_ble_eq_true rfl⟩) hP hK hD hN hE hS hA (precv hK hP m_h0 (cF12 k_h0) rfl) rfl hl.1 rfl (Nat.le_of_ble_eq_true rfl) dX12_readChange_41 ⟨Nat.le_of_ble_eq_true rfl, Nat.le_of_ble_eq_true rfl⟩ (fun r14 u15 H locs hqu15 hP hD hS => ?_)
  obtain ⟨hu, hxu15, z16, hr14⟩ := hqu15
  have hkl := KL.trans hkl hp z16.toL
  have hp := PX.trans hp hxu15
  have w17 : (u15.2.2.1 a14 5).toInt = (u11.2.2.1 a14 5).toInt := congrArg Int32.toInt (z16 a14 m_a14 k_a14 5)
  have gr14 : 0 ≤ r14.toInt ∧ r14.toInt ≤ 999 := by (try simp only [i_lt, i_le, i_eq, Int32.toInt_toInt64, Int32.reduceToInt, Int64.reduceToInt, true_and, and_true, false_and, and_false, false_or, or_false, true_or, or_true, not_true_eq_false, not_false_eq_true, ne_eq, forall_const, true_implies, false_implies, implies_true] at hpre tx1 g2 tx3 tx4 hr5 w10 hr7 w12 tx13 w17 hr14 ⊢) <;> omega
  have k_h0 : u15.2.1 h0 = 12 := (hp h0 m0_h0).2.1.trans k0_h0
  have m_h0 : h0 ∈ u15.1 := (hp h0 m0_h0).1
  have k_a14 : u15.2.1 a14 = 51 := (hp a14 m0_a14).2.1.trans k0_a14
  have m_a14 : a14 ∈ u15.1 := (hp a14 m0_a14).1
  refine pasI (u' := pSI u15 a14 (x13.toNatClampNeg) r14) hx hb hK hP hD hS m_a14 (cF51 k_a14) 1 rfl (vp_in_iff.mpr (by (try simp only [i_lt, i_le, i_eq, Int32.toInt_toInt64, Int32.reduceToInt, Int64.reduceToInt, true_and, and_true, false_and, and_false, false_or, or_false, true_or, or_true, not_true_eq_false, not_false_eq_true, ne_eq, forall_const, true_implies, false_implies, implies_true] at hpre tx1 g2 tx3 tx4 hr5 w10 hr7 w12 tx13 w17 hr14 gr14 ⊢) <;> omega)) rfl (sF51 k_a14 _ _) dX12_readChange_44 (fun H locs hP hD hS => ?_)
  have hu := WT.setI (a := a14) (s := (x13.toNatClampNeg)) (v := r14) hu (by rw [k_a14]; exact (show okW (x13.toNatClampNeg) r14 from by unfold okW; have z := cl_int (x := x13) (by (try simp only [i_lt, i_le, i_eq, Int32.toInt_toInt64, Int32.reduceToInt, Int64.reduceToInt, true_and, and_true, false_and, and_false, false_or, or_false, true_or, or_true, not_true_eq_false, not_false_eq_true, ne_eq, forall_const, true_implies, false_implies, implies_true] at hpre tx1 g2 tx3 tx4 hr5 w10 hr7 w12 tx13 w17 hr14 gr14 ⊢) <;> omega); (try simp only [i_lt, i_le, i_eq, Int32.toInt_toInt64, Int32.reduceToInt, Int64.reduceToInt, true_and, and_true, false_and, and_false, false_or, or_false, true_or, or_true, not_true_eq_false, not_false_eq_true, ne_eq, forall_const, true_implies, false_implies, implies_true] at hpre tx1 g2 tx3 tx4 hr5 w10 hr7 w12 tx13 w17 hr14 gr14 z ⊢) <;> omega))
  have hkl := KL.setF (a := a14) (s := (x13.toNatClampNeg)) (v := r14) hkl (by have z := cl_int (x := x13) (by (try simp only [i_lt, i_le, i_eq, Int32.toInt_toInt64, Int32.reduceToInt, Int64.reduceToInt, true_and, and_true, false_and, and_false, false_or, or_false, true_or, or_true, not_true_eq_false, not_false_eq_true, ne_eq, forall_const, true_implies, false_implies, implies_true] at hpre tx1 g2 tx3 tx4 hr5 w10 hr7 w12 tx13 w17 hr14 gr14 ⊢) <;> omega); (try simp only [i_lt, i_le, i_eq, Int32.toInt_toInt64, Int32.reduceToInt, Int64.reduceToInt, true_and, and_true, false_and, and_false, false_or, or_false, true_or, or_true, not_true_eq_false, not_false_eq_true, ne_eq, forall_const, true_implies, false_implies, implies_true] at hpre tx1 g2 tx3 tx4 hr5 w10 hr7 w12 tx13 w17 hr14 gr14 z ⊢) <;> omega)
  have hp := PX.setI (a := a14) (s := (x13.toNatClampNeg)) (v := r14) hp (by rw [k_a14]; decide)
  obtain ⟨u18, hu18⟩ : ∃ z, z = pSI u15 a14 (x13.toNatClampNeg) r14 := ⟨_, rfl⟩
  rw [← hu18] at hP hD hu hp hkl
  have w19 : (u18.2.2.1 a14 5).toInt = (u15.2.2.1 a14 5).toInt := by rw [hu18]; exact congrArg Int32.toInt (if_neg (fun q => by have y := q.2; have z := cl_int (x := x13) (by (try simp only [i_lt, i_le, i_eq, Int32.toInt_toInt64, Int32.reduceToInt, Int64.reduceToInt, true_and, and_true, false_and, and_false, false_or, or_false, true_or, or_true, not_true_eq_false, not_false_eq_true, ne_eq, forall_const, true_implies, false_implies, implies_true] at hpre tx1 g2 tx3 tx4 hr5 w10 hr7 w12 tx13 w17 hr14 gr14 ⊢) <;> omega); (try simp only [i_lt, i_le, i_eq, Int32.toInt_toInt64, Int32.reduceToInt, Int64.reduceToInt, true_and, and_true, false_and, and_false, false_or, or_false, true_or, or_true, not_true_eq_false, not_false_eq_true, ne_eq, forall_const, true_implies, false_implies, implies_true] at hpre tx1 g2 tx3 tx4 hr5 w10 hr7 w12 tx13 w17 hr14 gr14 y z ⊢) <;> omega))
  refine lv_aload_n hx hb dX12_readChange_45 rfl (lv_at hl 1 rfl) ?_
  refine va_ldcS (own := RX12) (tx := "needs") (q := tt.1 65) hx hb hown (hE.2.1 (RX12, 247, "needs", 65) (by decide +kernel)) dX12_readChange_46 ?_
  have k_h0 : u18.2.1 h0 = 12 := (hp h0 m0_h0).2.1.trans k0_h0
  have m_h0 : h0 ∈ u18.1 := (hp h0 m0_h0).1
  have k_a14 : u18.2.1 a14 = 51 := (hp a14 m0_a14).2.1.trans k0_a14
  have m_a14 : a14 ∈ u18.1 := (hp a14 m0_a14).1
  refine xvV (C := RX12) (As := [.ref (tt.1 65)]) (rest := []) ⟨hx, hb, hml, hown, hts⟩ (fun sz => t_X12_needsWord l D k tt u18 hu h0 m_h0 k_h0 65 (by decide) sz) (cwV 1 hts gX12_readChange_X12_needsWord rfl rfl rfl (by decide +kernel) ⟨Nat.le_of_ble_eq_true rfl, Nat.le_of_ble_eq_true rfl⟩) hP hK hD hN hE hS hA (precv hK hP m_h0 (cF12 k_h0) rfl) rfl hl.1 rfl (Nat.le_of_ble_eq_true rfl) dX12_readChange_48 ⟨Nat.le_of_ble_eq_true rfl, Nat.le_of_ble_eq_true rfl⟩ (fun u21 H locs hqu21 hP hD hS => ?_)
  obtain ⟨hu, hxu21, z22, hr20⟩ := hqu21
  have hkl := KL.trans hkl hp z22.toL
  have hp := PX.trans hp hxu21
  have w23 : (u21.2.2.1 a14 5).toInt = (u18.2.2.1 a14 5).toInt := congrArg Int32.toInt (z22 a14 m_a14 k_a14 5)
  refine lv_aload_n hx hb dX12_readChange_51 rfl (lv_at hl 1 rfl) ?_
  have k_h0 : u21.2.1 h0 = 12 := (hp h0 m0_h0).2.1.trans k0_h0
  have m_h0 : h0 ∈ u21.1 := (hp h0 m0_h0).1
  have k_a14 : u21.2.1 a14 = 51 := (hp a14 m0_a14).2.1.trans k0_a14
  have m_a14 : a14 ∈ u21.1 := (hp a14 m0_a14).1
  refine pget (ci := 12) (v := va_rf (u21.2.2.2.2 h0 14)) (C := RX12) (T := TX12) (N := 34) hx hb hts i_X12 hown hK hP m_h0 (cF12 k_h0) rfl 14 (by decide) (hts (.fieldLink RX12 34 "BellowsRowModel" "fresh" "[I") (by decide +kernel)) (fun _ h9 => h9) rfl dX12_readChange_52 ?_
  refine W.eq (g2 := F0 m 55 ls [.ref a14]) (by rw [(((hp h0 m0_h0).2.2.2.2.2.1 k0_h0 14).trans q0_14)]; rfl) ?_
  refine lv_iload_n hx hb dX12_readChange_55 rfl (lv_at hl 0 rfl) ?_
  refine lv_iconst (v := 2) hx hb dX12_readChange_56 (by decide) ?_
  refine lv_iadd hx hb dX12_readChange_57 ?_
  refine lv_topi (fun x24 ex24 => ?_)
  have tx24 : x24.toInt = x4.toInt + (2 : Int32).toInt := by rw [ex24]; exact i_add (by (try simp only [i_lt, i_le, i_eq, Int32.toInt_toInt64, Int32.reduceToInt, Int64.reduceToInt, true_and, and_true, false_and, and_false, false_or, or_false, true_or, or_true, not_true_eq_false, not_false_eq_true, ne_eq, forall_const, true_implies, false_implies, implies_true] at hpre tx1 g2 tx3 tx4 hr5 w10 hr7 w12 tx13 w17 hr14 gr14 w19 w23 hr20 ⊢) <;> omega) (by (try simp only [i_lt, i_le, i_eq, Int32.toInt_toInt64, Int32.reduceToInt, Int64.reduceToInt, true_and, and_true, false_and, and_false, false_or, or_false, true_or, or_true, not_true_eq_false, not_false_eq_true, ne_eq, forall_const, true_implies, false_implies, implies_true] at hpre tx1 g2 tx3 tx4 hr5 w10 hr7 w12 tx13 w17 hr14 gr14 w19 w23 hr20 ⊢) <;> omega)
  refine lv_aload_n hx hb dX12_readChange_58 rfl (lv_at hl 1 rfl) ?_
  refine xiV (C := RX12) (As := []) (rest := [.int x24, .ref a14]) ⟨hx, hb, hml, hown, hts⟩ (fun sz => t_X12_subjects l D k tt u21 hu h0 m_h0 k_h0  sz) (cwV 0 hts gX12_readChange_X12_subjects rfl rfl rfl (by decide +kernel) ⟨Nat.le_of_ble_eq_true rfl, Nat.le_of_ble_eq_true rfl⟩) hP hK hD hN hE hS hA (precv hK hP m_h0 (cF12 k_h0) rfl) rfl hl.1 rfl (Nat.le_of_ble_eq_true rfl) dX12_readChange_59 ⟨Nat.le_of_ble_eq_true rfl, Nat.le_of_ble_eq_true rfl⟩ (fun r25 u26 H locs hqu26 hP hD hS => ?_)
  obtain ⟨hu, hxu26, z27, hr25⟩ := hqu26
  have hkl := KL.trans hkl hp z27.toL
  have hp := PX.trans hp hxu26
  have w28 : (u26.2.2.1 a14 5).toInt = (u21.2.2.1 a14 5).toInt := congrArg Int32.toInt (z27 a14 m_a14 k_a14 5)
  have k_h0 : u26.2.1 h0 = 12 := (hp h0 m0_h0).2.1.trans k0_h0
  have m_h0 : h0 ∈ u26.1 := (hp h0 m0_h0).1
  have k_a14 : u26.2.1 a14 = 51 := (hp a14 m0_a14).2.1.trans k0_a14
  have m_a14 : a14 ∈ u26.1 := (hp a14 m0_a14).1
  refine pasI (u' := pSI u26 a14 (x24.toNatClampNeg) r25) hx hb hK hP hD hS m_a14 (cF51 k_a14) 1 rfl (vp_in_iff.mpr (by (try simp only [i_lt, i_le, i_eq, Int32.toInt_toInt64, Int32.reduceToInt, Int64.reduceToInt, true_and, and_true, false_and, and_false, false_or, or_false, true_or, or_true, not_true_eq_false, not_false_eq_true, ne_eq, forall_const, true_implies, false_implies, implies_true] at hpre tx1 g2 tx3 tx4 hr5 w10 hr7 w12 tx13 w17 hr14 gr14 w19 w23 hr20 tx24 w28 hr25 ⊢) <;> omega)) rfl (sF51 k_a14 _ _) dX12_readChange_62 (fun H locs hP hD hS => ?_)
  have hu := WT.setI (a := a14) (s := (x24.toNatClampNeg)) (v := r25) hu (by rw [k_a14]; exact (show okW (x24.toNatClampNeg) r25 from by unfold okW; have z := cl_int (x := x24) (by (try simp only [i_lt, i_le, i_eq, Int32.toInt_toInt64, Int32.reduceToInt, Int64.reduceToInt, true_and, and_true, false_and, and_false, false_or, or_false, true_or, or_true, not_true_eq_false, not_false_eq_true, ne_eq, forall_const, true_implies, false_implies, implies_true] at hpre tx1 g2 tx3 tx4 hr5 w10 hr7 w12 tx13 w17 hr14 gr14 w19 w23 hr20 tx24 w28 hr25 ⊢) <;> omega); (try simp only [i_lt, i_le, i_eq, Int32.toInt_toInt64, Int32.reduceToInt, Int64.reduceToInt, true_and, and_true, false_and, and_false, false_or, or_false, true_or, or_true, not_true_eq_false, not_false_eq_true, ne_eq, forall_const, true_implies, false_implies, implies_true] at hpre tx1 g2 tx3 tx4 hr5 w10 hr7 w12 tx13 w17 hr14 gr14 w19 w23 hr20 tx24 w28 hr25 z ⊢) <;> omega))
  have hkl := KL.setF (a := a14) (s := (x24.toNatClampNeg)) (v := r25) hkl (by have z := cl_int (x := x24) (by (try simp only [i_lt, i_le, i_eq, Int32.toInt_toInt64, Int32.reduceToInt, Int64.reduceToInt, true_and, and_true, false_and, and_false, false_or, or_false, true_or, or_true, not_true_eq_false, not_false_eq_true, ne_eq, forall_const, true_implies, false_implies, implies_true] at hpre tx1 g2 tx3 tx4 hr5 w10 hr7 w12 tx13 w17 hr14 gr14 w19 w23 hr20 tx24 w28 hr25 ⊢) <;> omega); (try simp only [i_lt, i_le, i_eq, Int32.toInt_toInt64, Int32.reduceToInt, Int64.reduceToInt, true_and, and_true, false_and, and_false, false_or, or_false, true_or, or_true, not_true_eq_false, not_false_eq_true, ne_eq, forall_const, true_implies, false_implies, implies_true] at hpre tx1 g2 tx3 tx4 hr5 w10 hr7 w12 tx13 w17 hr14 gr14 w19 w23 hr20 tx24 w28 hr25 z ⊢) <;> omega)
  have hp := PX.setI (a := a14) (s := (x24.toNatClampNeg)) (v := r25) hp (by rw [k_a14]; decide)
  obtain ⟨u29, hu29⟩ : ∃ z, z = pSI u26 a14 (x24.toNatClampNeg) r25 := ⟨_, rfl⟩
  rw [← hu29] at hP hD hu hp hkl
  have w30 : (u29.2.2.1 a14 5).toInt = (u26.2.2.1 a14 5).toInt := by rw [hu29]; exact congrArg Int32.toInt (if_neg (fun q => by have y := q.2; have z := cl_int (x := x24) (by (try simp only [i_lt, i_le, i_eq, Int32.toInt_toInt64, Int32.reduceToInt, Int64.reduceToInt, true_and, and_true, false_and, and_false, false_or, or_false, true_or, or_true, not_true_eq_false, not_false_eq_true, ne_eq, forall_const, true_implies, false_implies, implies_true] at hpre tx1 g2 tx3 tx4 hr5 w10 hr7 w12 tx13 w17 hr14 gr14 w19 w23 hr20 tx24 w28 hr25 ⊢) <;> omega); (try simp only [i_lt, i_le, i_eq, Int32.toInt_toInt64, Int32.reduceToInt, Int64.reduceToInt, true_and, and_true, false_and, and_false, false_or, or_false, true_or, or_true, not_true_eq_false, not_false_eq_true, ne_eq, forall_const, true_implies, false_implies, implies_true] at hpre tx1 g2 tx3 tx4 hr5 w10 hr7 w12 tx13 w17 hr14 gr14 w19 w23 hr20 tx24 w28 hr25 y z ⊢) <;> omega))
  refine lv_aload_n hx hb dX12_readChange_63 rfl (lv_at hl 1 rfl) ?_
  have k_h0 : u29.2.1 h0 = 12 := (hp h0 m0_h0).2.1.trans k0_h0
  have m_h0 : h0 ∈ u29.1 := (hp h0 m0_h0).1
  have k_a14 : u29.2.1 a14 = 51 := (hp a14 m0_a14).2.1.trans k0_a14
  have m_a14 : a14 ∈ u29.1 := (hp a14 m0_a14).1
  refine rvi (C := RX12) (As := []) (rest := []) ⟨hx, hb, hml, hown, hts⟩ (t_X12_good l D k u29 hu h0 m_h0 k_h0 ) (cwV 0 hts gX12_readChange_X12_good rfl rfl rfl (by decide +kernel) ⟨Nat.le_of_ble_eq_true rfl, Nat.le_of_ble_eq_true rfl⟩) hP hK (precv hK hP m_h0 (cF12 k_h0) rfl) rfl hl.1 rfl (Nat.le_of_ble_eq_true rfl) dX12_readChange_64 ⟨Nat.le_of_ble_eq_true rfl, Nat.le_of_ble_eq_true rfl⟩ (fun r31 hr31 => ?_)
  refine lv_if_eq (tgt := 80) hx hb dX12_readChange_67 (by decide) (fun c32 => ?_) (fun c32 => ?_)
  · have eb33 : r31.toInt = 0 := by rcases hr31 with ⟨q, -⟩ | ⟨q, -⟩; exact q; (exact absurd (c32) (fun w => by rw [w] at q; exact absurd q (by decide)))
    have fb33 : (u29.2.2.1 h0 12).toInt ≠ 0 := by rcases hr31 with ⟨q, r⟩ | ⟨q, r⟩; exact r; exact absurd q (by omega)
    clear hr31
    exact W.vret hx hb hr (fun t ht hW => ⟨⟨u29, rfl, ⟨hu, hp, hkl, trivial⟩, by rw [ht]; exact hP, hD⟩, hS.F ht⟩) hS.2.2 dX12_readChange_80
  · have eb34 : r31.toInt = 1 := by rcases hr31 with ⟨q, -⟩ | ⟨q, -⟩; exact absurd (i_eq.mpr q) c32; exact q
    have fb34 : (u29.2.2.1 h0 12).toInt = 0 := by rcases hr31 with ⟨q, r⟩ | ⟨q, r⟩; exact absurd q (by omega); exact r
    clear hr31
    refine lv_aload_n hx hb dX12_readChange_70 rfl (lv_at hl 1 rfl) ?_
    refine pget (ci := 12) (v := va_rf (u29.2.2.2.2 h0 14)) (C := RX12) (T := TX12) (N := 34) hx hb hts i_X12 hown hK hP m_h0 (cF12 k_h0) rfl 14 (by decide) (hts (.fieldLink RX12 34 "BellowsRowModel" "fresh" "[I") (by decide +kernel)) (fun _ h9 => h9) rfl dX12_readChange_71 ?_
    refine W.eq (g2 := F0 m 74 ls [.ref a14]) (by rw [(((hp h0 m0_h0).2.2.2.2.2.1 k0_h0 14).trans q0_14)]; rfl) ?_
    refine lv_iconst (v := 5) hx hb dX12_readChange_74 (by decide) ?_
    refine lv_dup2_11 hx hb dX12_readChange_75 rfl rfl ?_
    refine palI hx hb hK hP m_a14 (cF51 k_a14) 1 rfl (vp_in_iff.mpr (by decide)) dX12_readChange_76 ?_
    refine lv_topi (fun x35 ex35 => ?_)
    have tx35 : x35.toInt = (u29.2.2.1 a14 5).toInt := congrArg Int32.toInt ex35
    have g36 : 0 ≤ x35.toInt ∧ x35.toInt ≤ 20 := by have g : okI (u29.2.1 a14) (5) (u29.2.2.1 a14 (5)) := (hu a14 m_a14).2.2.2 (5); rw [k_a14, ← (show x35 = u29.2.2.1 a14 (5) from ex35)] at g; have g : okW (5) x35 := g; unfold okW at g; (try simp only [i_lt, i_le, i_eq, Int32.toInt_toInt64, Int32.reduceToInt, Int64.reduceToInt, true_and, and_true, false_and, and_false, false_or, or_false, true_or, or_true, not_true_eq_false, not_false_eq_true, ne_eq, forall_const, true_implies, false_implies, implies_true] at hpre tx1 g2 tx3 tx4 hr5 w10 hr7 w12 tx13 w17 hr14 gr14 w19 w23 hr20 tx24 w28 hr25 w30 eb34 fb34 tx35 g ⊢) <;> omega
    refine lv_iconst (v := 1) hx hb dX12_readChange_77 (by decide) ?_
    refine lv_iadd hx hb dX12_readChange_78 ?_
    refine lv_topi (fun x37 ex37 => ?_)
    have tx37 : x37.toInt = x35.toInt + (1 : Int32).toInt := by rw [ex37]; exact i_add (by (try simp only [i_lt, i_le, i_eq, Int32.toInt_toInt64, Int32.reduceToInt, Int64.reduceToInt, true_and, and_true, false_and, and_false, false_or, or_false, true_or, or_true, not_true_eq_false, not_false_eq_true, ne_eq, forall_const, true_implies, false_implies, implies_true] at hpre tx1 g2 tx3 tx4 hr5 w10 hr7 w12 tx13 w17 hr14 gr14 w19 w23 hr20 tx24 w28 hr25 w30 eb34 fb34 tx35 g36 ⊢) <;> omega) (by (try simp only [i_lt, i_le, i_eq, Int32.toInt_toInt64, Int32.reduceToInt, Int64.reduceToInt, true_and, and_true, false_and, and_false, false_or, or_false, true_or, or_true, not_true_eq_false, not_false_eq_true, ne_eq, forall_const, true_implies, false_implies, implies_true] at hpre tx1 g2 tx3 tx4 hr5 w10 hr7 w12 tx13 w17 hr14 gr14 w19 w23 hr20 tx24 w28 hr25 w30 eb34 fb34 tx35 g36 ⊢) <;> omega)
    refine pasI (u' := pSI u29 a14 5 x37) hx hb hK hP hD hS m_a14 (cF51 k_a14) 1 rfl (vp_in_iff.mpr (by decide)) rfl (sF51 k_a14 _ _) dX12_readChange_79 (fun H locs hP hD hS => ?_)
    have hu := WT.setI (a := a14) (s := 5) (v := x37) hu (by rw [k_a14]; exact (show okW 5 x37 from by unfold okW; (try simp only [i_lt, i_le, i_eq, Int32.toInt_toInt64, Int32.reduceToInt, Int64.reduceToInt, true_and, and_true, false_and, and_false, false_or, or_false, true_or, or_true, not_true_eq_false, not_false_eq_true, ne_eq, forall_const, true_implies, false_implies, implies_true] at hpre tx1 g2 tx3 tx4 hr5 w10 hr7 w12 tx13 w17 hr14 gr14 w19 w23 hr20 tx24 w28 hr25 w30 eb34 fb34 tx35 g36 tx37 ⊢) <;> omega))
    have hkl := KL.setF (a := a14) (s := 5) (v := x37) hkl (by (try simp only [i_lt, i_le, i_eq, Int32.toInt_toInt64, Int32.reduceToInt, Int64.reduceToInt, true_and, and_true, false_and, and_false, false_or, or_false, true_or, or_true, not_true_eq_false, not_false_eq_true, ne_eq, forall_const, true_implies, false_implies, implies_true] at hpre tx1 g2 tx3 tx4 hr5 w10 hr7 w12 tx13 w17 hr14 gr14 w19 w23 hr20 tx24 w28 hr25 w30 eb34 fb34 tx35 g36 tx37 ⊢) <;> omega)
    have hp := PX.setI (a := a14) (s := 5) (v := x37) hp (by rw [k_a14]; decide)
    obtain ⟨u38, hu38⟩ : ∃ z, z = pSI u29 a14 5 x37 := ⟨_, rfl⟩
    rw [← hu38] at hP hD hu hp hkl
    have w39 : (u38.2.2.1 a14 5).toInt = x37.toInt := by rw [hu38]; exact congrArg Int32.toInt (if_pos ⟨rfl, rfl⟩)
    exact W.vret hx hb hr (fun t ht hW => ⟨⟨u38, rfl, ⟨hu, hp, hkl, trivial⟩, by rw [ht]; exact hP, hD⟩, hS.F ht⟩) hS.2.2 dX12_readChange_80
set_option maxHeartbeats 4000000 in
set_option maxRecDepth 100000 in
theorem t_X12_readWind (l : Launch) (D : va_G) (k : Nat → ClassId) (tt : TT) (u0 : PSt) (hu : WT u0) (h0 : Nat) (m_h0 : h0 ∈ u0.1) (k_h0 : u0.2.1 h0 = 12) (sz : Nat) : Met l yX12_readWind wsX12_readWind ({ frames := 5, cells := 0, slots := 0, locals := 108 }) (PreT D k tt sz (PW k u0) [.ref h0]) (va_Qv (fun v => WT v ∧ PX u0 v ∧ KL u0 v ∧ (True)) (WB D (va_A (PW k u0) sz) (PW k)) (va_A (PW k u0) sz)) 0 0 (va_A (PW k u0) sz) := by
  refine Met.ofW (cc := cX12_readWind) (maxL := 1) (ret := none) (by decide) rfl ?_
  intro p e s m args below meth c s₁ B hml hv
  obtain ⟨rfl, hsz, hP, hK, hD0, hN, hE0⟩ := hv
  have hx := B.exec
  have hb := B.bytes
  have hr := B.returns
  have hts := atoms_spec (ws := wsX12_readWind) B.pre
  have hown : s.vm.findClass RX12 = some m.cls := findClass_of_methodNamed B.named
  have hlocks := B.notSynchronized
  have i_X12 : ∀ w ∈ wsX120, w ∈ wsX12_readWind := by decide +kernel
  obtain ⟨a14, q0_14, m0_a14, k0_a14⟩ := (hu h0 m_h0).1 14 51 (by rw [k_h0]; rfl)
  have m0_h0 := m_h0
  have k0_h0 := k_h0
  have m_a14 := m0_a14
  have k_a14 := k0_a14
  subst hsz
  have hD := hD0.self (sz := s.heap.size)
  have hE := hE0
  generalize hAe : va_A (PW k u0) s.heap.size = A at hD hE ⊢
  have hA : ∀ q : Nat, s.heap.size ≤ q → A q := fun q h => by rw [← hAe]; exact Or.inr h
  have hS : va_S A s.heap s.heap [] := va_S.rf
  have hp : PX u0 u0 := PX.rf
  have hkl : KL u0 u0 := KL.rf
  have hl := lv_entry ([.ref h0]) (n := 1) (Nat.le_of_ble_eq_true rfl)
  rw [lg_entry_eq]
  generalize (lg_sl ([.ref h0]) ++ List.replicate (1 - (lg_sl ([.ref h0])).length) Slot.unset).toArray = ls at hl ⊢
  have hl : lv_has ls 1 [(0, .ref h0)] := hl
  refine lv_aload_n hx hb dX12_readWind_0 rfl (lv_at hl 0 rfl) ?_
  refine pget (ci := 12) (v := va_rf (u0.2.2.2.2 h0 14)) (C := RX12) (T := TX12) (N := 34) hx hb hts i_X12 hown hK hP m_h0 (cF12 k_h0) rfl 14 (by decide) (hts (.fieldLink RX12 34 "BellowsRowModel" "fresh" "[I") (by decide +kernel)) (fun _ h9 => h9) rfl dX12_readWind_1 ?_
  refine W.eq (g2 := F0 m 4 ls [.ref a14]) (by rw [(((hp h0 m0_h0).2.2.2.2.2.1 k0_h0 14).trans q0_14)]; rfl) ?_
  refine lv_bipush (v := 7) hx hb dX12_readWind_4 (by decide) ?_
  refine lv_aload_n hx hb dX12_readWind_6 rfl (lv_at hl 0 rfl) ?_
  refine lv_aload_n hx hb dX12_readWind_7 rfl (lv_at hl 0 rfl) ?_
  refine va_ldcS (own := RX12) (tx := "left") (q := tt.1 66) hx hb hown (hE.2.1 (RX12, 249, "left", 66) (by decide +kernel)) dX12_readWind_8 ?_
  refine xiV (C := RX12) (As := [.ref (tt.1 66)]) (rest := [.ref h0, .int 7, .ref a14]) ⟨hx, hb, hml, hown, hts⟩ (fun sz => t_X12_is l D k tt u0 hu h0 m_h0 k_h0 66 (by decide) sz) (cwV 1 hts gX12_readWind_X12_is rfl rfl rfl (by decide +kernel) ⟨Nat.le_of_ble_eq_true rfl, Nat.le_of_ble_eq_true rfl⟩) hP hK hD hN hE hS hA (precv hK hP m_h0 (cF12 k_h0) rfl) rfl hl.1 rfl (Nat.le_of_ble_eq_true rfl) dX12_readWind_10 ⟨Nat.le_of_ble_eq_true rfl, Nat.le_of_ble_eq_true rfl⟩ (fun r1 u2 H locs hqu2 hP hD hS => ?_)
  obtain ⟨hu, hxu2, hr1⟩ := hqu2
  have sameu2 : u0 = u2 := hr1.1.symm
  subst sameu2
  have hr1 := hr1.2
  rcases hr1 with ⟨er1, hnr1⟩ | ⟨er1, hir1, har1⟩
  · refine lv_if_eq (tgt := 20) hx hb dX12_readWind_13 (by decide) (fun _ => ?_) (fun h => absurd (by (try simp only [i_lt, i_le, i_eq, Int32.toInt_toInt64, Int32.reduceToInt, Int64.reduceToInt, true_and, and_true, false_and, and_false, false_or, or_false, true_or, or_true, not_true_eq_false, not_false_eq_true, ne_eq, forall_const, true_implies, false_implies, implies_true] at er1 ⊢) <;> omega) h)
    refine lv_aload_n hx hb dX12_readWind_20 rfl (lv_at hl 0 rfl) ?_
    refine va_ldcS (own := RX12) (tx := "right") (q := tt.1 37) hx hb hown (hE.2.1 (RX12, 157, "right", 37) (by decide +kernel)) dX12_readWind_21 ?_
    refine xiV (C := RX12) (As := [.ref (tt.1 37)]) (rest := [.ref h0, .int 7, .ref a14]) ⟨hx, hb, hml, hown, hts⟩ (fun sz => t_X12_is l D k tt u0 hu h0 m_h0 k_h0 37 (by decide) sz) (cwV 1 hts gX12_readWind_X12_is rfl rfl rfl (by decide +kernel) ⟨Nat.le_of_ble_eq_true rfl, Nat.le_of_ble_eq_true rfl⟩) hP hK hD hN hE hS hA (precv hK hP m_h0 (cF12 k_h0) rfl) rfl hl.1 rfl (Nat.le_of_ble_eq_true rfl) dX12_readWind_23 ⟨Nat.le_of_ble_eq_true rfl, Nat.le_of_ble_eq_true rfl⟩ (fun r3 u4 H locs hqu4 hP hD hS => ?_)
    obtain ⟨hu, hxu4, hr3⟩ := hqu4
    have sameu4 : u0 = u4 := hr3.1.symm
    subst sameu4
    have hr3 := hr3.2
    rcases hr3 with ⟨er3, hnr3⟩ | ⟨er3, hir3, har3⟩
    · refine lv_if_eq (tgt := 33) hx hb dX12_readWind_26 (by decide) (fun _ => ?_) (fun h => absurd (by (try simp only [i_lt, i_le, i_eq, Int32.toInt_toInt64, Int32.reduceToInt, Int64.reduceToInt, true_and, and_true, false_and, and_false, false_or, or_false, true_or, or_true, not_true_eq_false, not_false_eq_true, ne_eq, forall_const, true_implies, false_implies, implies_true] at er1 er3 ⊢) <;> omega) h)
      refine lv_aload_n hx hb dX12_readWind_33 rfl (lv_at hl 0 rfl) ?_
      refine va_ldcS (own := RX12) (tx := "up") (q := tt.1 38) hx hb hown (hE.2.1 (RX12, 159, "up", 38) (by decide +kernel)) dX12_readWind_34 ?_
      refine xiV (C := RX12) (As := [.ref (tt.1 38)]) (rest := [.ref h0, .int 7, .ref a14]) ⟨hx, hb, hml, hown, hts⟩ (fun sz => t_X12_is l D k tt u0 hu h0 m_h0 k_h0 38 (by decide) sz) (cwV 1 hts gX12_readWind_X12_is rfl rfl rfl (by decide +kernel) ⟨Nat.le_of_ble_eq_true rfl, Nat.le_of_ble_eq_true rfl⟩) hP hK hD hN hE hS hA (precv hK hP m_h0 (cF12 k_h0) rfl) rfl hl.1 rfl (Nat.le_of_ble_eq_true rfl) dX12_readWind_36 ⟨Nat.le_of_ble_eq_true rfl, Nat.le_of_ble_eq_true rfl⟩ (fun r5 u6 H locs hqu6 hP hD hS => ?_)
      obtain ⟨hu, hxu6, hr5⟩ := hqu6
      have sameu6 : u0 = u6 := hr5.1.symm
      subst sameu6
      have hr5 := hr5.2
      rcases hr5 with ⟨er5, hnr5⟩ | ⟨er5, hir5, har5⟩
      · refine lv_if_eq (tgt := 46) hx hb dX12_readWind_39 (by decide) (fun _ => ?_) (fun h => absurd (by (try simp only [i_lt, i_le, i_eq, Int32.toInt_toInt64, Int32.reduceToInt, Int64.reduceToInt, true_and, and_true, false_and, and_false, false_or, or_false, true_or, or_true, not_true_eq_false, not_false_eq_true, ne_eq, forall_const, true_implies, false_implies, implies_true] at er1 er3 er5 ⊢) <;> omega) h)
        refine lv_aload_n hx hb dX12_readWind_46 rfl (lv_at hl 0 rfl) ?_
        refine va_ldcS (own := RX12) (tx := "down") (q := tt.1 39) hx hb hown (hE.2.1 (RX12, 161, "down", 39) (by decide +kernel)) dX12_readWind_47 ?_
        refine xiV (C := RX12) (As := [.ref (tt.1 39)]) (rest := [.ref h0, .int 7, .ref a14]) ⟨hx, hb, hml, hown, hts⟩ (fun sz => t_X12_is l D k tt u0 hu h0 m_h0 k_h0 39 (by decide) sz) (cwV 1 hts gX12_readWind_X12_is rfl rfl rfl (by decide +kernel) ⟨Nat.le_of_ble_eq_true rfl, Nat.le_of_ble_eq_true rfl⟩) hP hK hD hN hE hS hA (precv hK hP m_h0 (cF12 k_h0) rfl) rfl hl.1 rfl (Nat.le_of_ble_eq_true rfl) dX12_readWind_49 ⟨Nat.le_of_ble_eq_true rfl, Nat.le_of_ble_eq_true rfl⟩ (fun r7 u8 H locs hqu8 hP hD hS => ?_)
        obtain ⟨hu, hxu8, hr7⟩ := hqu8
        have sameu8 : u0 = u8 := hr7.1.symm
        subst sameu8
        have hr7 := hr7.2
        rcases hr7 with ⟨er7, hnr7⟩ | ⟨er7, hir7, har7⟩
        · refine lv_if_eq (tgt := 59) hx hb dX12_readWind_52 (by decide) (fun _ => ?_) (fun h => absurd (by (try simp only [i_lt, i_le, i_eq, Int32.toInt_toInt64, Int32.reduceToInt, Int64.reduceToInt, true_and, and_true, false_and, and_false, false_or, or_false, true_or, or_true, not_true_eq_false, not_false_eq_true, ne_eq, forall_const, true_implies, false_implies, implies_true] at er1 er3 er5 er7 ⊢) <;> omega) h)
          refine lv_iconst (v := (-1)) hx hb dX12_readWind_59 (by decide) ?_
          refine wiV (C := RX12) (As := [.int (-1)]) (rest := [.int 7, .ref a14]) ⟨hx, hb, hml, hown, hts⟩ (fun sz => t_X12_taken l D k u0 hu h0 m_h0 k_h0 (-1) sz) (cwV 1 hts gX12_readWind_X12_taken rfl rfl rfl (by decide +kernel) ⟨Nat.le_of_ble_eq_true rfl, Nat.le_of_ble_eq_true rfl⟩) hP hK hD hN hS hA (precv hK hP m_h0 (cF12 k_h0) rfl) rfl hl.1 rfl (Nat.le_of_ble_eq_true rfl) dX12_readWind_60 ⟨Nat.le_of_ble_eq_true rfl, Nat.le_of_ble_eq_true rfl⟩ (fun r9 u10 H locs hqu10 hP hD hS => ?_)
          obtain ⟨hu, hxu10, z11, hr9⟩ := hqu10
          have hkl := KL.trans hkl hp z11.toL
          have hp := PX.trans hp hxu10
          have k_h0 : u10.2.1 h0 = 12 := (hp h0 m0_h0).2.1.trans k0_h0
          have m_h0 : h0 ∈ u10.1 := (hp h0 m0_h0).1
          have k_a14 : u10.2.1 a14 = 51 := (hp a14 m0_a14).2.1.trans k0_a14
          have m_a14 : a14 ∈ u10.1 := (hp a14 m0_a14).1
          refine pasI (u' := pSI u10 a14 7 r9) hx hb hK hP hD hS m_a14 (cF51 k_a14) 1 rfl (vp_in_iff.mpr (by decide)) rfl (sF51 k_a14 _ _) dX12_readWind_63 (fun H locs hP hD hS => ?_)
          have hu := WT.setI (a := a14) (s := 7) (v := r9) hu (by rw [k_a14]; exact (show okW 7 r9 from by unfold okW; (try simp only [i_lt, i_le, i_eq, Int32.toInt_toInt64, Int32.reduceToInt, Int64.reduceToInt, true_and, and_true, false_and, and_false, false_or, or_false, true_or, or_true, not_true_eq_false, not_false_eq_true, ne_eq, forall_const, true_implies, false_implies, implies_true] at er1 er3 er5 er7 hr9 ⊢) <;> omega))
          have hkl := KL.setF (a := a14) (s := 7) (v := r9) hkl (by (try simp only [i_lt, i_le, i_eq, Int32.toInt_toInt64, Int32.reduceToInt, Int64.reduceToInt, true_and, and_true, false_and, and_false, false_or, or_false, true_or, or_true, not_true_eq_false, not_false_eq_true, ne_eq, forall_const, true_implies, false_implies, implies_true] at er1 er3 er5 er7 hr9 ⊢) <;> omega)
          have hp := PX.setI (a := a14) (s := 7) (v := r9) hp (by rw [k_a14]; decide)
          obtain ⟨u12, hu12⟩ : ∃ z, z = pSI u10 a14 7 r9 := ⟨_, rfl⟩
          rw [← hu12] at hP hD hu hp hkl
          refine lv_aload_n hx hb dX12_readWind_64 rfl (lv_at hl 0 rfl) ?_
          have k_h0 : u12.2.1 h0 = 12 := (hp h0 m0_h0).2.1.trans k0_h0
          have m_h0 : h0 ∈ u12.1 := (hp h0 m0_h0).1
          have k_a14 : u12.2.1 a14 = 51 := (hp a14 m0_a14).2.1.trans k0_a14
          have m_a14 : a14 ∈ u12.1 := (hp a14 m0_a14).1
          refine pget (ci := 12) (v := va_rf (u12.2.2.2.2 h0 14)) (C := RX12) (T := TX12) (N := 34) hx hb hts i_X12 hown hK hP m_h0 (cF12 k_h0) rfl 14 (by decide) (hts (.fieldLink RX12 34 "BellowsRowModel" "fresh" "[I") (by decide +kernel)) (fun _ h9 => h9) rfl dX12_readWind_65 ?_
          refine W.eq (g2 := F0 m 68 ls [.ref a14]) (by rw [(((hp h0 m0_h0).2.2.2.2.2.1 k0_h0 14).trans q0_14)]; rfl) ?_
          refine lv_bipush (v := 8) hx hb dX12_readWind_68 (by decide) ?_
          refine lv_aload_n hx hb dX12_readWind_70 rfl (lv_at hl 0 rfl) ?_
          refine lv_iconst (v := 0) hx hb dX12_readWind_71 (by decide) ?_
          refine lv_bipush (v := 50) hx hb dX12_readWind_72 (by decide) ?_
          refine wiV (C := RX12) (As := [.int 0, .int 50]) (rest := [.int 8, .ref a14]) ⟨hx, hb, hml, hown, hts⟩ (fun sz => t_X12_number l D k u12 hu h0 m_h0 k_h0 0 50 sz) (cwV 2 hts gX12_readWind_X12_number rfl rfl rfl (by decide +kernel) ⟨Nat.le_of_ble_eq_true rfl, Nat.le_of_ble_eq_true rfl⟩) hP hK hD hN hS hA (precv hK hP m_h0 (cF12 k_h0) rfl) rfl hl.1 rfl (Nat.le_of_ble_eq_true rfl) dX12_readWind_74 ⟨Nat.le_of_ble_eq_true rfl, Nat.le_of_ble_eq_true rfl⟩ (fun r13 u14 H locs hqu14 hP hD hS => ?_)
          obtain ⟨hu, hxu14, z15, hr13⟩ := hqu14
          have hkl := KL.trans hkl hp z15.toL
          have hp := PX.trans hp hxu14
          have gr13 : 0 ≤ r13.toInt ∧ r13.toInt ≤ 50 := by (try simp only [i_lt, i_le, i_eq, Int32.toInt_toInt64, Int32.reduceToInt, Int64.reduceToInt, true_and, and_true, false_and, and_false, false_or, or_false, true_or, or_true, not_true_eq_false, not_false_eq_true, ne_eq, forall_const, true_implies, false_implies, implies_true] at er1 er3 er5 er7 hr9 hr13 ⊢) <;> omega
          have k_h0 : u14.2.1 h0 = 12 := (hp h0 m0_h0).2.1.trans k0_h0
          have m_h0 : h0 ∈ u14.1 := (hp h0 m0_h0).1
          have k_a14 : u14.2.1 a14 = 51 := (hp a14 m0_a14).2.1.trans k0_a14
          have m_a14 : a14 ∈ u14.1 := (hp a14 m0_a14).1
          refine pasI (u' := pSI u14 a14 8 r13) hx hb hK hP hD hS m_a14 (cF51 k_a14) 1 rfl (vp_in_iff.mpr (by decide)) rfl (sF51 k_a14 _ _) dX12_readWind_77 (fun H locs hP hD hS => ?_)
          have hu := WT.setI (a := a14) (s := 8) (v := r13) hu (by rw [k_a14]; exact (show okW 8 r13 from by unfold okW; (try simp only [i_lt, i_le, i_eq, Int32.toInt_toInt64, Int32.reduceToInt, Int64.reduceToInt, true_and, and_true, false_and, and_false, false_or, or_false, true_or, or_true, not_true_eq_false, not_false_eq_true, ne_eq, forall_const, true_implies, false_implies, implies_true] at er1 er3 er5 er7 hr9 hr13 gr13 ⊢) <;> omega))
          have hkl := KL.setF (a := a14) (s := 8) (v := r13) hkl (by (try simp only [i_lt, i_le, i_eq, Int32.toInt_toInt64, Int32.reduceToInt, Int64.reduceToInt, true_and, and_true, false_and, and_false, false_or, or_false, true_or, or_true, not_true_eq_false, not_false_eq_true, ne_eq, forall_const, true_implies, false_implies, implies_true] at er1 er3 er5 er7 hr9 hr13 gr13 ⊢) <;> omega)
          have hp := PX.setI (a := a14) (s := 8) (v := r13) hp (by rw [k_a14]; decide)
          obtain ⟨u16, hu16⟩ : ∃ z, z = pSI u14 a14 8 r13 := ⟨_, rfl⟩
          rw [← hu16] at hP hD hu hp hkl
          refine lv_aload_n hx hb dX12_readWind_78 rfl (lv_at hl 0 rfl) ?_
          refine lv_iconst (v := 1) hx hb dX12_readWind_79 (by decide) ?_
          have k_h0 : u16.2.1 h0 = 12 := (hp h0 m0_h0).2.1.trans k0_h0
          have m_h0 : h0 ∈ u16.1 := (hp h0 m0_h0).1
          refine pput (u' := pSI u16 h0 15 1) (ci := 12) (v := .int 1) (ty := .boolean) (C := RX12) (T := TX12) (N := 34) hx hb hts i_X12 tyX12 tyX12_ok nmX12 hown hK hP hD hS m_h0 (cF12 k_h0) rfl 15 (by decide) (hts (.fieldLink RX12 251 "BellowsRowModel" "windTold" "Z") (by decide +kernel)) (fun _ h9 => h9) rfl (by decide +kernel) rfl rfl (Nat.le_of_ble_eq_true rfl) rfl (sF12_15 k_h0 1) dX12_readWind_80 (fun H locs hP hD hS => ?_)
          have hu := WT.setI (a := h0) (s := 15) (v := 1) hu (by rw [k_h0]; exact (show 0 ≤ (1 : Int32).toInt ∧ (1 : Int32).toInt ≤ 1 from by decide))
          have hkl := KL.setI (a := h0) (s := 15) (v := 1) hkl hp (by rw [k_h0]; decide)
          have hp := PX.setI (a := h0) (s := 15) (v := 1) hp (by rw [k_h0]; decide)
          obtain ⟨u17, hu17⟩ : ∃ z, z = pSI u16 h0 15 1 := ⟨_, rfl⟩
          rw [← hu17] at hP hD hu hp hkl
          exact W.vret hx hb hr (fun t ht hW => ⟨⟨u17, rfl, ⟨hu, hp, hkl, trivial⟩, by rw [ht]; exact hP, hD⟩, hS.F ht⟩) hS.2.2 dX12_readWind_83
        · refine lv_if_eq (tgt := 59) hx hb dX12_readWind_52 (by decide) (fun h => absurd h (by (try simp only [i_lt, i_le, i_eq, Int32.toInt_toInt64, Int32.reduceToInt, Int64.reduceToInt, true_and, and_true, false_and, and_false, false_or, or_false, true_or, or_true, not_true_eq_false, not_false_eq_true, ne_eq, forall_const, true_implies, false_implies, implies_true] at er1 er3 er5 er7 har7 ⊢) <;> omega)) (fun _ => ?_)
          refine lv_iconst (v := 3) hx hb dX12_readWind_55 (by decide) ?_
          refine lv_goto (tgt := 60) hx hb dX12_readWind_56 (by decide) ?_
          refine wiV (C := RX12) (As := [.int 3]) (rest := [.int 7, .ref a14]) ⟨hx, hb, hml, hown, hts⟩ (fun sz => t_X12_taken l D k u0 hu h0 m_h0 k_h0 3 sz) (cwV 1 hts gX12_readWind_X12_taken rfl rfl rfl (by decide +kernel) ⟨Nat.le_of_ble_eq_true rfl, Nat.le_of_ble_eq_true rfl⟩) hP hK hD hN hS hA (precv hK hP m_h0 (cF12 k_h0) rfl) rfl hl.1 rfl (Nat.le_of_ble_eq_true rfl) dX12_readWind_60 ⟨Nat.le_of_ble_eq_true rfl, Nat.le_of_ble_eq_true rfl⟩ (fun r18 u19 H locs hqu19 hP hD hS => ?_)
          obtain ⟨hu, hxu19, z20, hr18⟩ := hqu19
          have hkl := KL.trans hkl hp z20.toL
          have hp := PX.trans hp hxu19
          have k_h0 : u19.2.1 h0 = 12 := (hp h0 m0_h0).2.1.trans k0_h0
          have m_h0 : h0 ∈ u19.1 := (hp h0 m0_h0).1
          have k_a14 : u19.2.1 a14 = 51 := (hp a14 m0_a14).2.1.trans k0_a14
          have m_a14 : a14 ∈ u19.1 := (hp a14 m0_a14).1
          refine pasI (u' := pSI u19 a14 7 r18) hx hb hK hP hD hS m_a14 (cF51 k_a14) 1 rfl (vp_in_iff.mpr (by decide)) rfl (sF51 k_a14 _ _) dX12_readWind_63 (fun H locs hP hD hS => ?_)
          have hu := WT.setI (a := a14) (s := 7) (v := r18) hu (by rw [k_a14]; exact (show okW 7 r18 from by unfold okW; (try simp only [i_lt, i_le, i_eq, Int32.toInt_toInt64, Int32.reduceToInt, Int64.reduceToInt, true_and, and_true, false_and, and_false, false_or, or_false, true_or, or_true, not_true_eq_false, not_false_eq_true, ne_eq, forall_const, true_implies, false_implies, implies_true] at er1 er3 er5 er7 har7 hr18 ⊢) <;> omega))
          have hkl := KL.setF (a := a14) (s := 7) (v := r18) hkl (by (try simp only [i_lt, i_le, i_eq, Int32.toInt_toInt64, Int32.reduceToInt, Int64.reduceToInt, true_and, and_true, false_and, and_false, false_or, or_false, true_or, or_true, not_true_eq_false, not_false_eq_true, ne_eq, forall_const, true_implies, false_implies, implies_true] at er1 er3 er5 er7 har7 hr18 ⊢) <;> omega)
          have hp := PX.setI (a := a14) (s := 7) (v := r18) hp (by rw [k_a14]; decide)
          obtain ⟨u21, hu21⟩ : ∃ z, z = pSI u19 a14 7 r18 := ⟨_, rfl⟩
          rw [← hu21] at hP hD hu hp hkl
          refine lv_aload_n hx hb dX12_readWind_64 rfl (lv_at hl 0 rfl) ?_
          have k_h0 : u21.2.1 h0 = 12 := (hp h0 m0_h0).2.1.trans k0_h0
          have m_h0 : h0 ∈ u21.1 := (hp h0 m0_h0).1
          have k_a14 : u21.2.1 a14 = 51 := (hp a14 m0_a14).2.1.trans k0_a14
          have m_a14 : a14 ∈ u21.1 := (hp a14 m0_a14).1
          refine pget (ci := 12) (v := va_rf (u21.2.2.2.2 h0 14)) (C := RX12) (T := TX12) (N := 34) hx hb hts i_X12 hown hK hP m_h0 (cF12 k_h0) rfl 14 (by decide) (hts (.fieldLink RX12 34 "BellowsRowModel" "fresh" "[I") (by decide +kernel)) (fun _ h9 => h9) rfl dX12_readWind_65 ?_
          refine W.eq (g2 := F0 m 68 ls [.ref a14]) (by rw [(((hp h0 m0_h0).2.2.2.2.2.1 k0_h0 14).trans q0_14)]; rfl) ?_
          refine lv_bipush (v := 8) hx hb dX12_readWind_68 (by decide) ?_
          refine lv_aload_n hx hb dX12_readWind_70 rfl (lv_at hl 0 rfl) ?_
          refine lv_iconst (v := 0) hx hb dX12_readWind_71 (by decide) ?_
          refine lv_bipush (v := 50) hx hb dX12_readWind_72 (by decide) ?_
          refine wiV (C := RX12) (As := [.int 0, .int 50]) (rest := [.int 8, .ref a14]) ⟨hx, hb, hml, hown, hts⟩ (fun sz => t_X12_number l D k u21 hu h0 m_h0 k_h0 0 50 sz) (cwV 2 hts gX12_readWind_X12_number rfl rfl rfl (by decide +kernel) ⟨Nat.le_of_ble_eq_true rfl, Nat.le_of_ble_eq_true rfl⟩) hP hK hD hN hS hA (precv hK hP m_h0 (cF12 k_h0) rfl) rfl hl.1 rfl (Nat.le_of_ble_eq_true rfl) dX12_readWind_74 ⟨Nat.le_of_ble_eq_true rfl, Nat.le_of_ble_eq_true rfl⟩ (fun r22 u23 H locs hqu23 hP hD hS => ?_)
          obtain ⟨hu, hxu23, z24, hr22⟩ := hqu23
          have hkl := KL.trans hkl hp z24.toL
          have hp := PX.trans hp hxu23
          have gr22 : 0 ≤ r22.toInt ∧ r22.toInt ≤ 50 := by (try simp only [i_lt, i_le, i_eq, Int32.toInt_toInt64, Int32.reduceToInt, Int64.reduceToInt, true_and, and_true, false_and, and_false, false_or, or_false, true_or, or_true, not_true_eq_false, not_false_eq_true, ne_eq, forall_const, true_implies, false_implies, implies_true] at er1 er3 er5 er7 har7 hr18 hr22 ⊢) <;> omega
          have k_h0 : u23.2.1 h0 = 12 := (hp h0 m0_h0).2.1.trans k0_h0
          have m_h0 : h0 ∈ u23.1 := (hp h0 m0_h0).1
          have k_a14 : u23.2.1 a14 = 51 := (hp a14 m0_a14).2.1.trans k0_a14
          have m_a14 : a14 ∈ u23.1 := (hp a14 m0_a14).1
          refine pasI (u' := pSI u23 a14 8 r22) hx hb hK hP hD hS m_a14 (cF51 k_a14) 1 rfl (vp_in_iff.mpr (by decide)) rfl (sF51 k_a14 _ _) dX12_readWind_77 (fun H locs hP hD hS => ?_)
          have hu := WT.setI (a := a14) (s := 8) (v := r22) hu (by rw [k_a14]; exact (show okW 8 r22 from by unfold okW; (try simp only [i_lt, i_le, i_eq, Int32.toInt_toInt64, Int32.reduceToInt, Int64.reduceToInt, true_and, and_true, false_and, and_false, false_or, or_false, true_or, or_true, not_true_eq_false, not_false_eq_true, ne_eq, forall_const, true_implies, false_implies, implies_true] at er1 er3 er5 er7 har7 hr18 hr22 gr22 ⊢) <;> omega))
          have hkl := KL.setF (a := a14) (s := 8) (v := r22) hkl (by (try simp only [i_lt, i_le, i_eq, Int32.toInt_toInt64, Int32.reduceToInt, Int64.reduceToInt, true_and, and_true, false_and, and_false, false_or, or_false, true_or, or_true, not_true_eq_false, not_false_eq_true, ne_eq, forall_const, true_implies, false_implies, implies_true] at er1 er3 er5 er7 har7 hr18 hr22 gr22 ⊢) <;> omega)
          have hp := PX.setI (a := a14) (s := 8) (v := r22) hp (by rw [k_a14]; decide)
          obtain ⟨u25, hu25⟩ : ∃ z, z = pSI u23 a14 8 r22 := ⟨_, rfl⟩
          rw [← hu25] at hP hD hu hp hkl
          refine lv_aload_n hx hb dX12_readWind_78 rfl (lv_at hl 0 rfl) ?_
          refine lv_iconst (v := 1) hx hb dX12_readWind_79 (by decide) ?_
          have k_h0 : u25.2.1 h0 = 12 := (hp h0 m0_h0).2.1.trans k0_h0
          have m_h0 : h0 ∈ u25.1 := (hp h0 m0_h0).1
          refine pput (u' := pSI u25 h0 15 1) (ci := 12) (v := .int 1) (ty := .boolean) (C := RX12) (T := TX12) (N := 34) hx hb hts i_X12 tyX12 tyX12_ok nmX12 hown hK hP hD hS m_h0 (cF12 k_h0) rfl 15 (by decide) (hts (.fieldLink RX12 251 "BellowsRowModel" "windTold" "Z") (by decide +kernel)) (fun _ h9 => h9) rfl (by decide +kernel) rfl rfl (Nat.le_of_ble_eq_true rfl) rfl (sF12_15 k_h0 1) dX12_readWind_80 (fun H locs hP hD hS => ?_)
          have hu := WT.setI (a := h0) (s := 15) (v := 1) hu (by rw [k_h0]; exact (show 0 ≤ (1 : Int32).toInt ∧ (1 : Int32).toInt ≤ 1 from by decide))
          have hkl := KL.setI (a := h0) (s := 15) (v := 1) hkl hp (by rw [k_h0]; decide)
          have hp := PX.setI (a := h0) (s := 15) (v := 1) hp (by rw [k_h0]; decide)
          obtain ⟨u26, hu26⟩ : ∃ z, z = pSI u25 h0 15 1 := ⟨_, rfl⟩
          rw [← hu26] at hP hD hu hp hkl
          exact W.vret hx hb hr (fun t ht hW => ⟨⟨u26, rfl, ⟨hu, hp, hkl, trivial⟩, by rw [ht]; exact hP, hD⟩, hS.F ht⟩) hS.2.2 dX12_readWind_83
      · refine lv_if_eq (tgt := 46) hx hb dX12_readWind_39 (by decide) (fun h => absurd h (by (try simp only [i_lt, i_le, i_eq, Int32.toInt_toInt64, Int32.reduceToInt, Int64.reduceToInt, true_and, and_true, false_and, and_false, false_or, or_false, true_or, or_true, not_true_eq_false, not_false_eq_true, ne_eq, forall_const, true_implies, false_implies, implies_true] at er1 er3 er5 har5 ⊢) <;> omega)) (fun _ => ?_)
        refine lv_iconst (v := 2) hx hb dX12_readWind_42 (by decide) ?_
        refine lv_goto (tgt := 60) hx hb dX12_readWind_43 (by decide) ?_
        refine wiV (C := RX12) (As := [.int 2]) (rest := [.int 7, .ref a14]) ⟨hx, hb, hml, hown, hts⟩ (fun sz => t_X12_taken l D k u0 hu h0 m_h0 k_h0 2 sz) (cwV 1 hts gX12_readWind_X12_taken rfl rfl rfl (by decide +kernel) ⟨Nat.le_of_ble_eq_true rfl, Nat.le_of_ble_eq_true rfl⟩) hP hK hD hN hS hA (precv hK hP m_h0 (cF12 k_h0) rfl) rfl hl.1 rfl (Nat.le_of_ble_eq_true rfl) dX12_readWind_60 ⟨Nat.le_of_ble_eq_true rfl, Nat.le_of_ble_eq_true rfl⟩ (fun r27 u28 H locs hqu28 hP hD hS => ?_)
        obtain ⟨hu, hxu28, z29, hr27⟩ := hqu28
        have hkl := KL.trans hkl hp z29.toL
        have hp := PX.trans hp hxu28
        have k_h0 : u28.2.1 h0 = 12 := (hp h0 m0_h0).2.1.trans k0_h0
        have m_h0 : h0 ∈ u28.1 := (hp h0 m0_h0).1
        have k_a14 : u28.2.1 a14 = 51 := (hp a14 m0_a14).2.1.trans k0_a14
        have m_a14 : a14 ∈ u28.1 := (hp a14 m0_a14).1
        refine pasI (u' := pSI u28 a14 7 r27) hx hb hK hP hD hS m_a14 (cF51 k_a14) 1 rfl (vp_in_iff.mpr (by decide)) rfl (sF51 k_a14 _ _) dX12_readWind_63 (fun H locs hP hD hS => ?_)
        have hu := WT.setI (a := a14) (s := 7) (v := r27) hu (by rw [k_a14]; exact (show okW 7 r27 from by unfold okW; (try simp only [i_lt, i_le, i_eq, Int32.toInt_toInt64, Int32.reduceToInt, Int64.reduceToInt, true_and, and_true, false_and, and_false, false_or, or_false, true_or, or_true, not_true_eq_false, not_false_eq_true, ne_eq, forall_const, true_implies, false_implies, implies_true] at er1 er3 er5 har5 hr27 ⊢) <;> omega))
        have hkl := KL.setF (a := a14) (s := 7) (v := r27) hkl (by (try simp only [i_lt, i_le, i_eq, Int32.toInt_toInt64, Int32.reduceToInt, Int64.reduceToInt, true_and, and_true, false_and, and_false, false_or, or_false, true_or, or_true, not_true_eq_false, not_false_eq_true, ne_eq, forall_const, true_implies, false_implies, implies_true] at er1 er3 er5 har5 hr27 ⊢) <;> omega)
        have hp := PX.setI (a := a14) (s := 7) (v := r27) hp (by rw [k_a14]; decide)
        obtain ⟨u30, hu30⟩ : ∃ z, z = pSI u28 a14 7 r27 := ⟨_, rfl⟩
        rw [← hu30] at hP hD hu hp hkl
        refine lv_aload_n hx hb dX12_readWind_64 rfl (lv_at hl 0 rfl) ?_
        have k_h0 : u30.2.1 h0 = 12 := (hp h0 m0_h0).2.1.trans k0_h0
        have m_h0 : h0 ∈ u30.1 := (hp h0 m0_h0).1
        have k_a14 : u30.2.1 a14 = 51 := (hp a14 m0_a14).2.1.trans k0_a14
        have m_a14 : a14 ∈ u30.1 := (hp a14 m0_a14).1
        refine pget (ci := 12) (v := va_rf (u30.2.2.2.2 h0 14)) (C := RX12) (T := TX12) (N := 34) hx hb hts i_X12 hown hK hP m_h0 (cF12 k_h0) rfl 14 (by decide) (hts (.fieldLink RX12 34 "BellowsRowModel" "fresh" "[I") (by decide +kernel)) (fun _ h9 => h9) rfl dX12_readWind_65 ?_
        refine W.eq (g2 := F0 m 68 ls [.ref a14]) (by rw [(((hp h0 m0_h0).2.2.2.2.2.1 k0_h0 14).trans q0_14)]; rfl) ?_
        refine lv_bipush (v := 8) hx hb dX12_readWind_68 (by decide) ?_
        refine lv_aload_n hx hb dX12_readWind_70 rfl (lv_at hl 0 rfl) ?_
        refine lv_iconst (v := 0) hx hb dX12_readWind_71 (by decide) ?_
        refine lv_bipush (v := 50) hx hb dX12_readWind_72 (by decide) ?_
        refine wiV (C := RX12) (As := [.int 0, .int 50]) (rest := [.int 8, .ref a14]) ⟨hx, hb, hml, hown, hts⟩ (fun sz => t_X12_number l D k u30 hu h0 m_h0 k_h0 0 50 sz) (cwV 2 hts gX12_readWind_X12_number rfl rfl rfl (by decide +kernel) ⟨Nat.le_of_ble_eq_true rfl, Nat.le_of_ble_eq_true rfl⟩) hP hK hD hN hS hA (precv hK hP m_h0 (cF12 k_h0) rfl) rfl hl.1 rfl (Nat.le_of_ble_eq_true rfl) dX12_readWind_74 ⟨Nat.le_of_ble_eq_true rfl, Nat.le_of_ble_eq_true rfl⟩ (fun r31 u32 H locs hqu32 hP hD hS => ?_)
        obtain ⟨hu, hxu32, z33, hr31⟩ := hqu32
        have hkl := KL.trans hkl hp z33.toL
        have hp := PX.trans hp hxu32
        have gr31 : 0 ≤ r31.toInt ∧ r31.toInt ≤ 50 := by (try simp only [i_lt, i_le, i_eq, Int32.toInt_toInt64, Int32.reduceToInt, Int64.reduceToInt, true_and, and_true, false_and, and_false, false_or, or_false, true_or, or_true, not_true_eq_false, not_false_eq_true, ne_eq, forall_const, true_implies, false_implies, implies_true] at er1 er3 er5 har5 hr27 hr31 ⊢) <;> omega
        have k_h0 : u32.2.1 h0 = 12 := (hp h0 m0_h0).2.1.trans k0_h0
        have m_h0 : h0 ∈ u32.1 := (hp h0 m0_h0).1
        have k_a14 : u32.2.1 a14 = 51 := (hp a14 m0_a14).2.1.trans k0_a14
        have m_a14 : a14 ∈ u32.1 := (hp a14 m0_a14).1
        refine pasI (u' := pSI u32 a14 8 r31) hx hb hK hP hD hS m_a14 (cF51 k_a14) 1 rfl (vp_in_iff.mpr (by decide)) rfl (sF51 k_a14 _ _) dX12_readWind_77 (fun H locs hP hD hS => ?_)
        have hu := WT.setI (a := a14) (s := 8) (v := r31) hu (by rw [k_a14]; exact (show okW 8 r31 from by unfold okW; (try simp only [i_lt, i_le, i_eq, Int32.toInt_toInt64, Int32.reduceToInt, Int64.reduceToInt, true_and, and_true, false_and, and_false, false_or, or_false, true_or, or_true, not_true_eq_false, not_false_eq_true, ne_eq, forall_const, true_implies, false_implies, implies_true] at er1 er3 er5 har5 hr27 hr31 gr31 ⊢) <;> omega))
        have hkl := KL.setF (a := a14) (s := 8) (v := r31) hkl (by (try simp only [i_lt, i_le, i_eq, Int32.toInt_toInt64, Int32.reduceToInt, Int64.reduceToInt, true_and, and_true, false_and, and_false, false_or, or_false, true_or, or_true, not_true_eq_false, not_false_eq_true, ne_eq, forall_const, true_implies, false_implies, implies_true] at er1 er3 er5 har5 hr27 hr31 gr31 ⊢) <;> omega)
        have hp := PX.setI (a := a14) (s := 8) (v := r31) hp (by rw [k_a14]; decide)
        obtain ⟨u34, hu34⟩ : ∃ z, z = pSI u32 a14 8 r31 := ⟨_, rfl⟩
        rw [← hu34] at hP hD hu hp hkl
        refine lv_aload_n hx hb dX12_readWind_78 rfl (lv_at hl 0 rfl) ?_
        refine lv_iconst (v := 1) hx hb dX12_readWind_79 (by decide) ?_
        have k_h0 : u34.2.1 h0 = 12 := (hp h0 m0_h0).2.1.trans k0_h0
        have m_h0 : h0 ∈ u34.1 := (hp h0 m0_h0).1
        refine pput (u' := pSI u34 h0 15 1) (ci := 12) (v := .int 1) (ty := .boolean) (C := RX12) (T := TX12) (N := 34) hx hb hts i_X12 tyX12 tyX12_ok nmX12 hown hK hP hD hS m_h0 (cF12 k_h0) rfl 15 (by decide) (hts (.fieldLink RX12 251 "BellowsRowModel" "windTold" "Z") (by decide +kernel)) (fun _ h9 => h9) rfl (by decide +kernel) rfl rfl (Nat.le_of_ble_eq_true rfl) rfl (sF12_15 k_h0 1) dX12_readWind_80 (fun H locs hP hD hS => ?_)
        have hu := WT.setI (a := h0) (s := 15) (v := 1) hu (by rw [k_h0]; exact (show 0 ≤ (1 : Int32).toInt ∧ (1 : Int32).toInt ≤ 1 from by decide))
        have hkl := KL.setI (a := h0) (s := 15) (v := 1) hkl hp (by rw [k_h0]; decide)
        have hp := PX.setI (a := h0) (s := 15) (v := 1) hp (by rw [k_h0]; decide)
        obtain ⟨u35, hu35⟩ : ∃ z, z = pSI u34 h0 15 1 := ⟨_, rfl⟩
        rw [← hu35] at hP hD hu hp hkl
        exact W.vret hx hb hr (fun t ht hW => ⟨⟨u35, rfl, ⟨hu, hp, hkl, trivial⟩, by rw [ht]; exact hP, hD⟩, hS.F ht⟩) hS.2.2 dX12_readWind_83
    · refine lv_if_eq (tgt := 33) hx hb dX12_readWind_26 (by decide) (fun h => absurd h (by (try simp only [i_lt, i_le, i_eq, Int32.toInt_toInt64, Int32.reduceToInt, Int64.reduceToInt, true_and, and_true, false_and, and_false, false_or, or_false, true_or, or_true, not_true_eq_false, not_false_eq_true, ne_eq, forall_const, true_implies, false_implies, implies_true] at er1 er3 har3 ⊢) <;> omega)) (fun _ => ?_)
      refine lv_iconst (v := 1) hx hb dX12_readWind_29 (by decide) ?_
      refine lv_goto (tgt := 60) hx hb dX12_readWind_30 (by decide) ?_
      refine wiV (C := RX12) (As := [.int 1]) (rest := [.int 7, .ref a14]) ⟨hx, hb, hml, hown, hts⟩ (fun sz => t_X12_taken l D k u0 hu h0 m_h0 k_h0 1 sz) (cwV 1 hts gX12_readWind_X12_taken rfl rfl rfl (by decide +kernel) ⟨Nat.le_of_ble_eq_true rfl, Nat.le_of_ble_eq_true rfl⟩) hP hK hD hN hS hA (precv hK hP m_h0 (cF12 k_h0) rfl) rfl hl.1 rfl (Nat.le_of_ble_eq_true rfl) dX12_readWind_60 ⟨Nat.le_of_ble_eq_true rfl, Nat.le_of_ble_eq_true rfl⟩ (fun r36 u37 H locs hqu37 hP hD hS => ?_)
      obtain ⟨hu, hxu37, z38, hr36⟩ := hqu37
      have hkl := KL.trans hkl hp z38.toL
      have hp := PX.trans hp hxu37
      have k_h0 : u37.2.1 h0 = 12 := (hp h0 m0_h0).2.1.trans k0_h0
      have m_h0 : h0 ∈ u37.1 := (hp h0 m0_h0).1
      have k_a14 : u37.2.1 a14 = 51 := (hp a14 m0_a14).2.1.trans k0_a14
      have m_a14 : a14 ∈ u37.1 := (hp a14 m0_a14).1
      refine pasI (u' := pSI u37 a14 7 r36) hx hb hK hP hD hS m_a14 (cF51 k_a14) 1 rfl (vp_in_iff.mpr (by decide)) rfl (sF51 k_a14 _ _) dX12_readWind_63 (fun H locs hP hD hS => ?_)
      have hu := WT.setI (a := a14) (s := 7) (v := r36) hu (by rw [k_a14]; exact (show okW 7 r36 from by unfold okW; (try simp only [i_lt, i_le, i_eq, Int32.toInt_toInt64, Int32.reduceToInt, Int64.reduceToInt, true_and, and_true, false_and, and_false, false_or, or_false, true_or, or_true, not_true_eq_false, not_false_eq_true, ne_eq, forall_const, true_implies, false_implies, implies_true] at er1 er3 har3 hr36 ⊢) <;> omega))
      have hkl := KL.setF (a := a14) (s := 7) (v := r36) hkl (by (try simp only [i_lt, i_le, i_eq, Int32.toInt_toInt64, Int32.reduceToInt, Int64.reduceToInt, true_and, and_true, false_and, and_false, false_or, or_false, true_or, or_true, not_true_eq_false, not_false_eq_true, ne_eq, forall_const, true_implies, false_implies, implies_true] at er1 er3 har3 hr36 ⊢) <;> omega)
      have hp := PX.setI (a := a14) (s := 7) (v := r36) hp (by rw [k_a14]; decide)
      obtain ⟨u39, hu39⟩ : ∃ z, z = pSI u37 a14 7 r36 := ⟨_, rfl⟩
      rw [← hu39] at hP hD hu hp hkl
      refine lv_aload_n hx hb dX12_readWind_64 rfl (lv_at hl 0 rfl) ?_
      have k_h0 : u39.2.1 h0 = 12 := (hp h0 m0_h0).2.1.trans k0_h0
      have m_h0 : h0 ∈ u39.1 := (hp h0 m0_h0).1
      have k_a14 : u39.2.1 a14 = 51 := (hp a14 m0_a14).2.1.trans k0_a14
      have m_a14 : a14 ∈ u39.1 := (hp a14 m0_a14).1
      refine pget (ci := 12) (v := va_rf (u39.2.2.2.2 h0 14)) (C := RX12) (T := TX12) (N := 34) hx hb hts i_X12 hown hK hP m_h0 (cF12 k_h0) rfl 14 (by decide) (hts (.fieldLink RX12 34 "BellowsRowModel" "fresh" "[I") (by decide +kernel)) (fun _ h9 => h9) rfl dX12_readWind_65 ?_
      refine W.eq (g2 := F0 m 68 ls [.ref a14]) (by rw [(((hp h0 m0_h0).2.2.2.2.2.1 k0_h0 14).trans q0_14)]; rfl) ?_
      refine lv_bipush (v := 8) hx hb dX12_readWind_68 (by decide) ?_
      refine lv_aload_n hx hb dX12_readWind_70 rfl (lv_at hl 0 rfl) ?_
      refine lv_iconst (v := 0) hx hb dX12_readWind_71 (by decide) ?_
      refine lv_bipush (v := 50) hx hb dX12_readWind_72 (by decide) ?_
      refine wiV (C := RX12) (As := [.int 0, .int 50]) (rest := [.int 8, .ref a14]) ⟨hx, hb, hml, hown, hts⟩ (fun sz => t_X12_number l D k u39 hu h0 m_h0 k_h0 0 50 sz) (cwV 2 hts gX12_readWind_X12_number rfl rfl rfl (by decide +kernel) ⟨Nat.le_of_ble_eq_true rfl, Nat.le_of_ble_eq_true rfl⟩) hP hK hD hN hS hA (precv hK hP m_h0 (cF12 k_h0) rfl) rfl hl.1 rfl (Nat.le_of_ble_eq_true rfl) dX12_readWind_74 ⟨Nat.le_of_ble_eq_true rfl, Nat.le_of_ble_eq_true rfl⟩ (fun r40 u41 H locs hqu41 hP hD hS => ?_)
      obtain ⟨hu, hxu41, z42, hr40⟩ := hqu41
      have hkl := KL.trans hkl hp z42.toL
      have hp := PX.trans hp hxu41
      have gr40 : 0 ≤ r40.toInt ∧ r40.toInt ≤ 50 := by (try simp only [i_lt, i_le, i_eq, Int32.toInt_toInt64, Int32.reduceToInt, Int64.reduceToInt, true_and, and_true, false_and, and_false, false_or, or_false, true_or, or_true, not_true_eq_false, not_false_eq_true, ne_eq, forall_const, true_implies, false_implies, implies_true] at er1 er3 har3 hr36 hr40 ⊢) <;> omega
      have k_h0 : u41.2.1 h0 = 12 := (hp h0 m0_h0).2.1.trans k0_h0
      have m_h0 : h0 ∈ u41.1 := (hp h0 m0_h0).1
      have k_a14 : u41.2.1 a14 = 51 := (hp a14 m0_a14).2.1.trans k0_a14
      have m_a14 : a14 ∈ u41.1 := (hp a14 m0_a14).1
      refine pasI (u' := pSI u41 a14 8 r40) hx hb hK hP hD hS m_a14 (cF51 k_a14) 1 rfl (vp_in_iff.mpr (by decide)) rfl (sF51 k_a14 _ _) dX12_readWind_77 (fun H locs hP hD hS => ?_)
      have hu := WT.setI (a := a14) (s := 8) (v := r40) hu (by rw [k_a14]; exact (show okW 8 r40 from by unfold okW; (try simp only [i_lt, i_le, i_eq, Int32.toInt_toInt64, Int32.reduceToInt, Int64.reduceToInt, true_and, and_true, false_and, and_false, false_or, or_false, true_or, or_true, not_true_eq_false, not_false_eq_true, ne_eq, forall_const, true_implies, false_implies, implies_true] at er1 er3 har3 hr36 hr40 gr40 ⊢) <;> omega))
      have hkl := KL.setF (a := a14) (s := 8) (v := r40) hkl (by (try simp only [i_lt, i_le, i_eq, Int32.toInt_toInt64, Int32.reduceToInt, Int64.reduceToInt, true_and, and_true, false_and, and_false, false_or, or_false, true_or, or_true, not_true_eq_false, not_false_eq_true, ne_eq, forall_const, true_implies, false_implies, implies_true] at er1 er3 har3 hr36 hr40 gr40 ⊢) <;> omega)
      have hp := PX.setI (a := a14) (s := 8) (v := r40) hp (by rw [k_a14]; decide)
      obtain ⟨u43, hu43⟩ : ∃ z, z = pSI u41 a14 8 r40 := ⟨_, rfl⟩
      rw [← hu43] at hP hD hu hp hkl
      refine lv_aload_n hx hb dX12_readWind_78 rfl (lv_at hl 0 rfl) ?_
      refine lv_iconst (v := 1) hx hb dX12_readWind_79 (by decide) ?_
      have k_h0 : u43.2.1 h0 = 12 := (hp h0 m0_h0).2.1.trans k0_h0
      have m_h0 : h0 ∈ u43.1 := (hp h0 m0_h0).1
      refine pput (u' := pSI u43 h0 15 1) (ci := 12) (v := .int 1) (ty := .boolean) (C := RX12) (T := TX12) (N := 34) hx hb hts i_X12 tyX12 tyX12_ok nmX12 hown hK hP hD hS m_h0 (cF12 k_h0) rfl 15 (by decide) (hts (.fieldLink RX12 251 "BellowsRowModel" "windTold" "Z") (by decide +kernel)) (fun _ h9 => h9) rfl (by decide +kernel) rfl rfl (Nat.le_of_ble_eq_true rfl) rfl (sF12_15 k_h0 1) dX12_readWind_80 (fun H locs hP hD hS => ?_)
      have hu := WT.setI (a := h0) (s := 15) (v := 1) hu (by rw [k_h0]; exact (show 0 ≤ (1 : Int32).toInt ∧ (1 : Int32).toInt ≤ 1 from by decide))
      have hkl := KL.setI (a := h0) (s := 15) (v := 1) hkl hp (by rw [k_h0]; decide)
      have hp := PX.setI (a := h0) (s := 15) (v := 1) hp (by rw [k_h0]; decide)
      obtain ⟨u44, hu44⟩ : ∃ z, z = pSI u43 h0 15 1 := ⟨_, rfl⟩
      rw [← hu44] at hP hD hu hp hkl
      exact W.vret hx hb hr (fun t ht hW => ⟨⟨u44, rfl, ⟨hu, hp, hkl, trivial⟩, by rw [ht]; exact hP, hD⟩, hS.F ht⟩) hS.2.2 dX12_readWind_83
  · refine lv_if_eq (tgt := 20) hx hb dX12_readWind_13 (by decide) (fun h => absurd h (by (try simp only [i_lt, i_le, i_eq, Int32.toInt_toInt64, Int32.reduceToInt, Int64.reduceToInt, true_and, and_true, false_and, and_false, false_or, or_false, true_or, or_true, not_true_eq_false, not_false_eq_true, ne_eq, forall_const, true_implies, false_implies, implies_true] at er1 har1 ⊢) <;> omega)) (fun _ => ?_)
    refine lv_iconst (v := 0) hx hb dX12_readWind_16 (by decide) ?_
    refine lv_goto (tgt := 60) hx hb dX12_readWind_17 (by decide) ?_
    refine wiV (C := RX12) (As := [.int 0]) (rest := [.int 7, .ref a14]) ⟨hx, hb, hml, hown, hts⟩ (fun sz => t_X12_taken l D k u0 hu h0 m_h0 k_h0 0 sz) (cwV 1 hts gX12_readWind_X12_taken rfl rfl rfl (by decide +kernel) ⟨Nat.le_of_ble_eq_true rfl, Nat.le_of_ble_eq_true rfl⟩) hP hK hD hN hS hA (precv hK hP m_h0 (cF12 k_h0) rfl) rfl hl.1 rfl (Nat.le_of_ble_eq_true rfl) dX12_readWind_60 ⟨Nat.le_of_ble_eq_true rfl, Nat.le_of_ble_eq_true rfl⟩ (fun r45 u46 H locs hqu46 hP hD hS => ?_)
    obtain ⟨hu, hxu46, z47, hr45⟩ := hqu46
    have hkl := KL.trans hkl hp z47.toL
    have hp := PX.trans hp hxu46
    have k_h0 : u46.2.1 h0 = 12 := (hp h0 m0_h0).2.1.trans k0_h0
    have m_h0 : h0 ∈ u46.1 := (hp h0 m0_h0).1
    have k_a14 : u46.2.1 a14 = 51 := (hp a14 m0_a14).2.1.trans k0_a14
    have m_a14 : a14 ∈ u46.1 := (hp a14 m0_a14).1
    refine pasI (u' := pSI u46 a14 7 r45) hx hb hK hP hD hS m_a14 (cF51 k_a14) 1 rfl (vp_in_iff.mpr (by decide)) rfl (sF51 k_a14 _ _) dX12_readWind_63 (fun H locs hP hD hS => ?_)
    have hu := WT.setI (a := a14) (s := 7) (v := r45) hu (by rw [k_a14]; exact (show okW 7 r45 from by unfold okW; (try simp only [i_lt, i_le, i_eq, Int32.toInt_toInt64, Int32.reduceToInt, Int64.reduceToInt, true_and, and_true, false_and, and_false, false_or, or_false, true_or, or_true, not_true_eq_false, not_false_eq_true, ne_eq, forall_const, true_implies, false_implies, implies_true] at er1 har1 hr45 ⊢) <;> omega))
    have hkl := KL.setF (a := a14) (s := 7) (v := r45) hkl (by (try simp only [i_lt, i_le, i_eq, Int32.toInt_toInt64, Int32.reduceToInt, Int64.reduceToInt, true_and, and_true, false_and, and_false, false_or, or_false, true_or, or_true, not_true_eq_false, not_false_eq_true, ne_eq, forall_const, true_implies, false_implies, implies_true] at er1 har1 hr45 ⊢) <;> omega)
    have hp := PX.setI (a := a14) (s := 7) (v := r45) hp (by rw [k_a14]; decide)
    obtain ⟨u48, hu48⟩ : ∃ z, z = pSI u46 a14 7 r45 := ⟨_, rfl⟩
    rw [← hu48] at hP hD hu hp hkl
    refine lv_aload_n hx hb dX12_readWind_64 rfl (lv_at hl 0 rfl) ?_
    have k_h0 : u48.2.1 h0 = 12 := (hp h0 m0_h0).2.1.trans k0_h0
    have m_h0 : h0 ∈ u48.1 := (hp h0 m0_h0).1
    have k_a14 : u48.2.1 a14 = 51 := (hp a14 m0_a14).2.1.trans k0_a14
    have m_a14 : a14 ∈ u48.1 := (hp a14 m0_a14).1
    refine pget (ci := 12) (v := va_rf (u48.2.2.2.2 h0 14)) (C := RX12) (T := TX12) (N := 34) hx hb hts i_X12 hown hK hP m_h0 (cF12 k_h0) rfl 14 (by decide) (hts (.fieldLink RX12 34 "BellowsRowModel" "fresh" "[I") (by decide +kernel)) (fun _ h9 => h9) rfl dX12_readWind_65 ?_
    refine W.eq (g2 := F0 m 68 ls [.ref a14]) (by rw [(((hp h0 m0_h0).2.2.2.2.2.1 k0_h0 14).trans q0_14)]; rfl) ?_
    refine lv_bipush (v := 8) hx hb dX12_readWind_68 (by decide) ?_
    refine lv_aload_n hx hb dX12_readWind_70 rfl (lv_at hl 0 rfl) ?_
    refine lv_iconst (v := 0) hx hb dX12_readWind_71 (by decide) ?_
    refine lv_bipush (v := 50) hx hb dX12_readWind_72 (by decide) ?_
    refine wiV (C := RX12) (As := [.int 0, .int 50]) (rest := [.int 8, .ref a14]) ⟨hx, hb, hml, hown, hts⟩ (fun sz => t_X12_number l D k u48 hu h0 m_h0 k_h0 0 50 sz) (cwV 2 hts gX12_readWind_X12_number rfl rfl rfl (by decide +kernel) ⟨Nat.le_of_ble_eq_true rfl, Nat.le_of_ble_eq_true rfl⟩) hP hK hD hN hS hA (precv hK hP m_h0 (cF12 k_h0) rfl) rfl hl.1 rfl (Nat.le_of_ble_eq_true rfl) dX12_readWind_74 ⟨Nat.le_of_ble_eq_true rfl, Nat.le_of_ble_eq_true rfl⟩ (fun r49 u50 H locs hqu50 hP hD hS => ?_)
    obtain ⟨hu, hxu50, z51, hr49⟩ := hqu50
    have hkl := KL.trans hkl hp z51.toL
    have hp := PX.trans hp hxu50
    have gr49 : 0 ≤ r49.toInt ∧ r49.toInt ≤ 50 := by (try simp only [i_lt, i_le, i_eq, Int32.toInt_toInt64, Int32.reduceToInt, Int64.reduceToInt, true_and, and_true, false_and, and_false, false_or, or_false, true_or, or_true, not_true_eq_false, not_false_eq_true, ne_eq, forall_const, true_implies, false_implies, implies_true] at er1 har1 hr45 hr49 ⊢) <;> omega
    have k_h0 : u50.2.1 h0 = 12 := (hp h0 m0_h0).2.1.trans k0_h0
    have m_h0 : h0 ∈ u50.1 := (hp h0 m0_h0).1
    have k_a14 : u50.2.1 a14 = 51 := (hp a14 m0_a14).2.1.trans k0_a14
    have m_a14 : a14 ∈ u50.1 := (hp a14 m0_a14).1
    refine pasI (u' := pSI u50 a14 8 r49) hx hb hK hP hD hS m_a14 (cF51 k_a14) 1 rfl (vp_in_iff.mpr (by decide)) rfl (sF51 k_a14 _ _) dX12_readWind_77 (fun H locs hP hD hS => ?_)
    have hu := WT.setI (a := a14) (s := 8) (v := r49) hu (by rw [k_a14]; exact (show okW 8 r49 from by unfold okW; (try simp only [i_lt, i_le, i_eq, Int32.toInt_toInt64, Int32.reduceToInt, Int64.reduceToInt, true_and, and_true, false_and, and_false, false_or, or_false, true_or, or_true, not_true_eq_false, not_false_eq_true, ne_eq, forall_const, true_implies, false_implies, implies_true] at er1 har1 hr45 hr49 gr49 ⊢) <;> omega))
    have hkl := KL.setF (a := a14) (s := 8) (v := r49) hkl (by (try simp only [i_lt, i_le, i_eq, Int32.toInt_toInt64, Int32.reduceToInt, Int64.reduceToInt, true_and, and_true, false_and, and_false, false_or, or_false, true_or, or_true, not_true_eq_false, not_false_eq_true, ne_eq, forall_const, true_implies, false_implies, implies_true] at er1 har1 hr45 hr49 gr49 ⊢) <;> omega)
    have hp := PX.setI (a := a14) (s := 8) (v := r49) hp (by rw [k_a14]; decide)
    obtain ⟨u52, hu52⟩ : ∃ z, z = pSI u50 a14 8 r49 := ⟨_, rfl⟩
    rw [← hu52] at hP hD hu hp hkl
    refine lv_aload_n hx hb dX12_readWind_78 rfl (lv_at hl 0 rfl) ?_
    refine lv_iconst (v := 1) hx hb dX12_readWind_79 (by decide) ?_
    have k_h0 : u52.2.1 h0 = 12 := (hp h0 m0_h0).2.1.trans k0_h0
    have m_h0 : h0 ∈ u52.1 := (hp h0 m0_h0).1
    refine pput (u' := pSI u52 h0 15 1) (ci := 12) (v := .int 1) (ty := .boolean) (C := RX12) (T := TX12) (N := 34) hx hb hts i_X12 tyX12 tyX12_ok nmX12 hown hK hP hD hS m_h0 (cF12 k_h0) rfl 15 (by decide) (hts (.fieldLink RX12 251 "BellowsRowModel" "windTold" "Z") (by decide +kernel)) (fun _ h9 => h9) rfl (by decide +kernel) rfl rfl (Nat.le_of_ble_eq_true rfl) rfl (sF12_15 k_h0 1) dX12_readWind_80 (fun H locs hP hD hS => ?_)
    have hu := WT.setI (a := h0) (s := 15) (v := 1) hu (by rw [k_h0]; exact (show 0 ≤ (1 : Int32).toInt ∧ (1 : Int32).toInt ≤ 1 from by decide))
    have hkl := KL.setI (a := h0) (s := 15) (v := 1) hkl hp (by rw [k_h0]; decide)
    have hp := PX.setI (a := h0) (s := 15) (v := 1) hp (by rw [k_h0]; decide)
    obtain ⟨u53, hu53⟩ : ∃ z, z = pSI u52 h0 15 1 := ⟨_, rfl⟩
    rw [← hu53] at hP hD hu hp hkl
    exact W.vret hx hb hr (fun t ht hW => ⟨⟨u53, rfl, ⟨hu, hp, hkl, trivial⟩, by rw [ht]; exact hP, hD⟩, hS.F ht⟩) hS.2.2 dX12_readWind_83
set_option maxHeartbeats 4000000 in
set_option maxRecDepth 100000 in
theorem t_X12_readLine (l : Launch) (D : va_G) (k : Nat → ClassId) (tt : TT) (u0 : PSt) (hu : WT u0) (h0 : Nat) (m_h0 : h0 ∈ u0.1) (k_h0 : u0.2.1 h0 = 12) (sz : Nat) : Met l yX12_readLine wsX12_readLine ({ frames := 9, cells := 0, slots := 0, locals := 197 }) (PreT D k tt sz (PW k u0) [.ref h0]) (va_Qv (fun v => WT v ∧ PX u0 v ∧ (((v.2.2.1 h0 12).toInt = 0 → ((v.2.2.1 (ar u0 h0 14) 0).toInt = (u0.2.2.1 (ar u0 h0 14) 0).toInt + 1 ∧ (u0.2.2.1 (ar u0 h0 14) 0).toInt ≤ 59)) ∧ (u0.2.2.1 (ar u0 h0 14) 0).toInt ≤ (v.2.2.1 (ar u0 h0 14) 0).toInt)) (WB D (va_A (PW k u0) sz) (PW k)) (va_A (PW k u0) sz)) 0 0 (va_A (PW k u0) sz) := by
  refine Met.ofW (cc := cX12_readLine) (maxL := 3) (ret := none) (by decide) rfl ?_
  intro p e s m args below meth c s₁ B hml hv
  obtain ⟨rfl, hsz, hP, hK, hD0, hN, hE0⟩ := hv
  have hx := B.exec
  have hb := B.bytes
  have hr := B.returns
  have hts := atoms_spec (ws := wsX12_readLine) B.pre
  have hown : s.vm.findClass RX12 = some m.cls := findClass_of_methodNamed B.named
  have hlocks := B.notSynchronized
  have i_X12 : ∀ w ∈ wsX120, w ∈ wsX12_readLine := by decide +kernel
  obtain ⟨a14, q0_14, m0_a14, k0_a14⟩ := (hu h0 m_h0).1 14 51 (by rw [k_h0]; rfl)
  have m0_h0 := m_h0
  have k0_h0 := k_h0
  have m_a14 := m0_a14
  have k_a14 := k0_a14
  subst hsz
  have hD := hD0.self (sz := s.heap.size)
  have hE := hE0
  generalize hAe : va_A (PW k u0) s.heap.size = A at hD hE ⊢
  have hA : ∀ q : Nat, s.heap.size ≤ q → A q := fun q h => by rw [← hAe]; exact Or.inr h
  have hS : va_S A s.heap s.heap [] := va_S.rf
  have hp : PX u0 u0 := PX.rf
  have B439 : ∀ (u : PSt) (H : Heap) (locs : List Loc) (ls : Array Slot), WT u → PX u0 u → va_P D vwCl (PW k u) H → va_D A (PW k u) → va_S A s.heap H locs → ((u.2.2.1 a14 0).toInt = (u0.2.2.1 a14 0).toInt) → ((u0.2.2.1 a14 0).toInt ≤ 59) → lv_has ls 3 [(0, .ref h0)] → W p l e (headSpec wsX12_readLine ({ frames := 9, cells := 0, slots := 0, locals := 197 })).room s m ([.ref h0] : List Value).toArray below meth c H locs 0 0 (MQ below (va_Qv (fun v => WT v ∧ PX u0 v ∧ (((v.2.2.1 h0 12).toInt = 0 → ((v.2.2.1 (ar u0 h0 14) 0).toInt = (u0.2.2.1 (ar u0 h0 14) 0).toInt + 1 ∧ (u0.2.2.1 (ar u0 h0 14) 0).toInt ≤ 59)) ∧ (u0.2.2.1 (ar u0 h0 14) 0).toInt ≤ (v.2.2.1 (ar u0 h0 14) 0).toInt)) (WB D A (PW k)) A) ([.ref h0] : List Value).toArray s 0 0 A) (F0 m 439 ls []) := by
    intro u H locs ls  hu hp hP hD hS ex0 ex1 hl
    refine lv_aload_n hx hb dX12_readLine_439 rfl (lv_at hl 0 rfl) ?_
    have k_h0 : u.2.1 h0 = 12 := (hp h0 m0_h0).2.1.trans k0_h0
    have m_h0 : h0 ∈ u.1 := (hp h0 m0_h0).1
    have k_a14 : u.2.1 a14 = 51 := (hp a14 m0_a14).2.1.trans k0_a14
    have m_a14 : a14 ∈ u.1 := (hp a14 m0_a14).1
    refine pget (ci := 12) (v := va_rf (u.2.2.2.2 h0 14)) (C := RX12) (T := TX12) (N := 34) hx hb hts i_X12 hown hK hP m_h0 (cF12 k_h0) rfl 14 (by decide) (hts (.fieldLink RX12 34 "BellowsRowModel" "fresh" "[I") (by decide +kernel)) (fun _ h9 => h9) rfl dX12_readLine_440 ?_
    refine W.eq (g2 := F0 m 443 ls [.ref a14]) (by rw [(((hp h0 m0_h0).2.2.2.2.2.1 k0_h0 14).trans q0_14)]; rfl) ?_
    refine lv_iconst (v := 0) hx hb dX12_readLine_443 (by decide) ?_
    refine lv_dup2_11 hx hb dX12_readLine_444 rfl rfl ?_
    refine palI hx hb hK hP m_a14 (cF51 k_a14) 1 rfl (vp_in_iff.mpr (by decide)) dX12_readLine_445 ?_
    refine lv_topi (fun x1 ex1 => ?_)
    have tx1 : x1.toInt = (u.2.2.1 a14 0).toInt := congrArg Int32.toInt ex1
    have g2 : 0 ≤ x1.toInt ∧ x1.toInt ≤ 60 := by have g : okI (u.2.1 a14) (0) (u.2.2.1 a14 (0)) := (hu a14 m_a14).2.2.2 (0); rw [k_a14, ← (show x1 = u.2.2.1 a14 (0) from ex1)] at g; have g : okW (0) x1 := g; unfold okW at g; (try simp only [i_lt, i_le, i_eq, Int32.toInt_toInt64, Int32.reduceToInt, Int64.reduceToInt, true_and, and_true, false_and, and_false, false_or, or_false, true_or, or_true, not_true_eq_false, not_false_eq_true, ne_eq, forall_const, true_implies, false_implies, implies_true] at ex0 ex1 tx1 g ⊢) <;> omega
    refine lv_iconst (v := 1) hx hb dX12_readLine_446 (by decide) ?_
    refine lv_iadd hx hb dX12_readLine_447 ?_
    refine lv_topi (fun x3 ex3 => ?_)
    have tx3 : x3.toInt = x1.toInt + (1 : Int32).toInt := by rw [ex3]; exact i_add (by (try simp only [i_lt, i_le, i_eq, Int32.toInt_toInt64, Int32.reduceToInt, Int64.reduceToInt, true_and, and_true, false_and, and_false, false_or, or_false, true_or, or_true, not_true_eq_false, not_false_eq_true, ne_eq, forall_const, true_implies, false_implies, implies_true] at ex0 ex1 tx1 g2 ⊢) <;> omega) (by (try simp only [i_lt, i_le, i_eq, Int32.toInt_toInt64, Int32.reduceToInt, Int64.reduceToInt, true_and, and_true, false_and, and_false, false_or, or_false, true_or, or_true, not_true_eq_false, not_false_eq_true, ne_eq, forall_const, true_implies, false_implies, implies_true] at ex0 ex1 tx1 g2 ⊢) <;> omega)
    refine pasI (u' := pSI u a14 0 x3) hx hb hK hP hD hS m_a14 (cF51 k_a14) 1 rfl (vp_in_iff.mpr (by decide)) rfl (sF51 k_a14 _ _) dX12_readLine_448 (fun H locs hP hD hS => ?_)
    have hu := WT.setI (a := a14) (s := 0) (v := x3) hu (by rw [k_a14]; exact (show okW 0 x3 from by unfold okW; (try simp only [i_lt, i_le, i_eq, Int32.toInt_toInt64, Int32.reduceToInt, Int64.reduceToInt, true_and, and_true, false_and, and_false, false_or, or_false, true_or, or_true, not_true_eq_false, not_false_eq_true, ne_eq, forall_const, true_implies, false_implies, implies_true] at ex0 ex1 tx1 g2 tx3 ⊢) <;> omega))
    have hp := PX.setI (a := a14) (s := 0) (v := x3) hp (by rw [k_a14]; decide)
    obtain ⟨u4, hu4⟩ : ∃ z, z = pSI u a14 0 x3 := ⟨_, rfl⟩
    rw [← hu4] at hP hD hu hp
    have w5 : (u4.2.2.1 a14 0).toInt = x3.toInt := by rw [hu4]; exact congrArg Int32.toInt (if_pos ⟨rfl, rfl⟩)
    have w6 : (u4.2.2.1 a14 1).toInt = (u.2.2.1 a14 1).toInt := by rw [hu4]; exact congrArg Int32.toInt (if_neg (fun q => absurd q.2 (by decide)))
    have w7 : (u4.2.2.1 a14 2).toInt = (u.2.2.1 a14 2).toInt := by rw [hu4]; exact congrArg Int32.toInt (if_neg (fun q => absurd q.2 (by decide)))
    have w8 : (u4.2.2.1 a14 3).toInt = (u.2.2.1 a14 3).toInt := by rw [hu4]; exact congrArg Int32.toInt (if_neg (fun q => absurd q.2 (by decide)))
    have w9 : (u4.2.2.1 a14 4).toInt = (u.2.2.1 a14 4).toInt := by rw [hu4]; exact congrArg Int32.toInt (if_neg (fun q => absurd q.2 (by decide)))
    have w10 : (u4.2.2.1 a14 5).toInt = (u.2.2.1 a14 5).toInt := by rw [hu4]; exact congrArg Int32.toInt (if_neg (fun q => absurd q.2 (by decide)))
    have w11 : (u4.2.2.1 h0 12).toInt = (u.2.2.1 h0 12).toInt := by rw [hu4]; exact congrArg Int32.toInt (if_neg (fun q => by have y := q.1; have z := k_h0; rw [y, k_a14] at z; exact absurd z (by decide)))
    exact W.vret hx hb hr (fun t ht hW => ⟨⟨u4, rfl, ⟨hu, hp, (show ((u4.2.2.1 h0 12).toInt = 0 → ((u4.2.2.1 (ar u0 h0 14) 0).toInt = (u0.2.2.1 (ar u0 h0 14) 0).toInt + 1 ∧ (u0.2.2.1 (ar u0 h0 14) 0).toInt ≤ 59)) ∧ (u0.2.2.1 (ar u0 h0 14) 0).toInt ≤ (u4.2.2.1 (ar u0 h0 14) 0).toInt from by (simp only [ar_eq q0_14]); (try simp only [i_lt, i_le, i_eq, Int32.toInt_toInt64, Int32.reduceToInt, Int64.reduceToInt, true_and, and_true, false_and, and_false, false_or, or_false, true_or, or_true, not_true_eq_false, not_false_eq_true, ne_eq, forall_const, true_implies, false_implies, implies_true] at ex0 ex1 tx1 g2 tx3 w5 w6 w7 w8 w9 w10 w11 ⊢) <;> omega)⟩, by rw [ht]; exact hP, hD⟩, hS.F ht⟩) hS.2.2 dX12_readLine_449
  have B428 : ∀ (u : PSt) (H : Heap) (locs : List Loc) (ls : Array Slot), WT u → PX u0 u → va_P D vwCl (PW k u) H → va_D A (PW k u) → va_S A s.heap H locs → ((u.2.2.1 a14 0).toInt = (u0.2.2.1 a14 0).toInt) → ((u0.2.2.1 a14 0).toInt ≤ 59) → lv_has ls 3 [(0, .ref h0)] → W p l e (headSpec wsX12_readLine ({ frames := 9, cells := 0, slots := 0, locals := 197 })).room s m ([.ref h0] : List Value).toArray below meth c H locs 0 0 (MQ below (va_Qv (fun v => WT v ∧ PX u0 v ∧ (((v.2.2.1 h0 12).toInt = 0 → ((v.2.2.1 (ar u0 h0 14) 0).toInt = (u0.2.2.1 (ar u0 h0 14) 0).toInt + 1 ∧ (u0.2.2.1 (ar u0 h0 14) 0).toInt ≤ 59)) ∧ (u0.2.2.1 (ar u0 h0 14) 0).toInt ≤ (v.2.2.1 (ar u0 h0 14) 0).toInt)) (WB D A (PW k)) A) ([.ref h0] : List Value).toArray s 0 0 A) (F0 m 428 ls []) := by
    intro u H locs ls  hu hp hP hD hS ex0 ex1 hl
    refine lv_aload_n hx hb dX12_readLine_428 rfl (lv_at hl 0 rfl) ?_
    have k_h0 : u.2.1 h0 = 12 := (hp h0 m0_h0).2.1.trans k0_h0
    have m_h0 : h0 ∈ u.1 := (hp h0 m0_h0).1
    have k_a14 : u.2.1 a14 = 51 := (hp a14 m0_a14).2.1.trans k0_a14
    have m_a14 : a14 ∈ u.1 := (hp a14 m0_a14).1
    refine rvi (C := RX12) (As := []) (rest := []) ⟨hx, hb, hml, hown, hts⟩ (t_X12_good l D k u hu h0 m_h0 k_h0 ) (cwV 0 hts gX12_readLine_X12_good rfl rfl rfl (by decide +kernel) ⟨Nat.le_of_ble_eq_true rfl, Nat.le_of_ble_eq_true rfl⟩) hP hK (precv hK hP m_h0 (cF12 k_h0) rfl) rfl hl.1 rfl (Nat.le_of_ble_eq_true rfl) dX12_readLine_429 ⟨Nat.le_of_ble_eq_true rfl, Nat.le_of_ble_eq_true rfl⟩ (fun r12 hr12 => ?_)
    refine lv_if_eq (tgt := 439) hx hb dX12_readLine_432 (by decide) (fun c13 => ?_) (fun c13 => ?_)
    · have eb14 : r12.toInt = 0 := by rcases hr12 with ⟨q, -⟩ | ⟨q, -⟩; exact q; (exact absurd (c13) (fun w => by rw [w] at q; exact absurd q (by decide)))
      have fb14 : (u.2.2.1 h0 12).toInt ≠ 0 := by rcases hr12 with ⟨q, r⟩ | ⟨q, r⟩; exact r; exact absurd q (by omega)
      clear hr12
      exact B439 _ _ _ ls hu hp hP hD hS (by (try simp only [i_lt, i_le, i_eq, Int32.toInt_toInt64, Int32.reduceToInt, Int64.reduceToInt, true_and, and_true, false_and, and_false, false_or, or_false, true_or, or_true, not_true_eq_false, not_false_eq_true, ne_eq, forall_const, true_implies, false_implies, implies_true] at ex0 ex1 eb14 fb14 ⊢) <;> omega) (by (try simp only [i_lt, i_le, i_eq, Int32.toInt_toInt64, Int32.reduceToInt, Int64.reduceToInt, true_and, and_true, false_and, and_false, false_or, or_false, true_or, or_true, not_true_eq_false, not_false_eq_true, ne_eq, forall_const, true_implies, false_implies, implies_true] at ex0 ex1 eb14 fb14 ⊢) <;> omega) (lv_sub hl [0] rfl)
    · have eb15 : r12.toInt = 1 := by rcases hr12 with ⟨q, -⟩ | ⟨q, -⟩; exact absurd (i_eq.mpr q) c13; exact q
      have fb15 : (u.2.2.1 h0 12).toInt = 0 := by rcases hr12 with ⟨q, r⟩ | ⟨q, r⟩; exact absurd q (by omega); exact r
      clear hr12
      refine lv_aload_n hx hb dX12_readLine_435 rfl (lv_at hl 0 rfl) ?_
      refine wvV (C := RX12) (As := []) (rest := []) ⟨hx, hb, hml, hown, hts⟩ (fun sz => t_X12_advance l D k u hu h0 m_h0 k_h0  sz) (cwV 0 hts gX12_readLine_X12_advance rfl rfl rfl (by decide +kernel) ⟨Nat.le_of_ble_eq_true rfl, Nat.le_of_ble_eq_true rfl⟩) hP hK hD hN hS hA (precv hK hP m_h0 (cF12 k_h0) rfl) rfl hl.1 rfl (Nat.le_of_ble_eq_true rfl) dX12_readLine_436 ⟨Nat.le_of_ble_eq_true rfl, Nat.le_of_ble_eq_true rfl⟩ (fun u17 H locs hqu17 hP hD hS => ?_)
      obtain ⟨hu, hxu17, z18, hr16⟩ := hqu17
      have hp := PX.trans hp hxu17
      have w19 : (u17.2.2.1 a14 0).toInt = (u.2.2.1 a14 0).toInt := congrArg Int32.toInt (z18 a14 m_a14 k_a14 0)
      have w20 : (u17.2.2.1 a14 1).toInt = (u.2.2.1 a14 1).toInt := congrArg Int32.toInt (z18 a14 m_a14 k_a14 1)
      have w21 : (u17.2.2.1 a14 2).toInt = (u.2.2.1 a14 2).toInt := congrArg Int32.toInt (z18 a14 m_a14 k_a14 2)
      have w22 : (u17.2.2.1 a14 3).toInt = (u.2.2.1 a14 3).toInt := congrArg Int32.toInt (z18 a14 m_a14 k_a14 3)
      have w23 : (u17.2.2.1 a14 4).toInt = (u.2.2.1 a14 4).toInt := congrArg Int32.toInt (z18 a14 m_a14 k_a14 4)
      have w24 : (u17.2.2.1 a14 5).toInt = (u.2.2.1 a14 5).toInt := congrArg Int32.toInt (z18 a14 m_a14 k_a14 5)
      exact B439 _ _ _ ls hu hp hP hD hS (by (try simp only [i_lt, i_le, i_eq, Int32.toInt_toInt64, Int32.reduceToInt, Int64.reduceToInt, true_and, and_true, false_and, and_false, false_or, or_false, true_or, or_true, not_true_eq_false, not_false_eq_true, ne_eq, forall_const, true_implies, false_implies, implies_true] at ex0 ex1 eb15 fb15 w19 w20 w21 w22 w23 w24 hr16 ⊢) <;> omega) (by (try simp only [i_lt, i_le, i_eq, Int32.toInt_toInt64, Int32.reduceToInt, Int64.reduceToInt, true_and, and_true, false_and, and_false, false_or, or_false, true_or, or_true, not_true_eq_false, not_false_eq_true, ne_eq, forall_const, true_implies, false_implies, implies_true] at ex0 ex1 eb15 fb15 w19 w20 w21 w22 w23 w24 hr16 ⊢) <;> omega) (lv_sub hl [0] rfl)
  have B408 : ∀ (u : PSt) (H : Heap) (locs : List Loc) (ls : Array Slot), WT u → PX u0 u → va_P D vwCl (PW k u) H → va_D A (PW k u) → va_S A s.heap H locs → ((u.2.2.1 a14 0).toInt = (u0.2.2.1 a14 0).toInt) → ((u0.2.2.1 a14 0).toInt ≤ 59) → lv_has ls 3 [(0, .ref h0)] → W p l e (headSpec wsX12_readLine ({ frames := 9, cells := 0, slots := 0, locals := 197 })).room s m ([.ref h0] : List Value).toArray below meth c H locs 0 0 (MQ below (va_Qv (fun v => WT v ∧ PX u0 v ∧ (((v.2.2.1 h0 12).toInt = 0 → ((v.2.2.1 (ar u0 h0 14) 0).toInt = (u0.2.2.1 (ar u0 h0 14) 0).toInt + 1 ∧ (u0.2.2.1 (ar u0 h0 14) 0).toInt ≤ 59)) ∧ (u0.2.2.1 (ar u0 h0 14) 0).toInt ≤ (v.2.2.1 (ar u0 h0 14) 0).toInt)) (WB D A (PW k)) A) ([.ref h0] : List Value).toArray s 0 0 A) (F0 m 408 ls []) := by
    intro u H locs ls  hu hp hP hD hS ex0 ex1 hl
    refine lv_aload_n hx hb dX12_readLine_408 rfl (lv_at hl 0 rfl) ?_
    have k_h0 : u.2.1 h0 = 12 := (hp h0 m0_h0).2.1.trans k0_h0
    have m_h0 : h0 ∈ u.1 := (hp h0 m0_h0).1
    have k_a14 : u.2.1 a14 = 51 := (hp a14 m0_a14).2.1.trans k0_a14
    have m_a14 : a14 ∈ u.1 := (hp a14 m0_a14).1
    refine rvi (C := RX12) (As := []) (rest := []) ⟨hx, hb, hml, hown, hts⟩ (t_X12_good l D k u hu h0 m_h0 k_h0 ) (cwV 0 hts gX12_readLine_X12_good rfl rfl rfl (by decide +kernel) ⟨Nat.le_of_ble_eq_true rfl, Nat.le_of_ble_eq_true rfl⟩) hP hK (precv hK hP m_h0 (cF12 k_h0) rfl) rfl hl.1 rfl (Nat.le_of_ble_eq_true rfl) dX12_readLine_409 ⟨Nat.le_of_ble_eq_true rfl, Nat.le_of_ble_eq_true rfl⟩ (fun r25 hr25 => ?_)
    refine lv_if_eq (tgt := 428) hx hb dX12_readLine_412 (by decide) (fun c26 => ?_) (fun c26 => ?_)
    · have eb27 : r25.toInt = 0 := by rcases hr25 with ⟨q, -⟩ | ⟨q, -⟩; exact q; (exact absurd (c26) (fun w => by rw [w] at q; exact absurd q (by decide)))
      have fb27 : (u.2.2.1 h0 12).toInt ≠ 0 := by rcases hr25 with ⟨q, r⟩ | ⟨q, r⟩; exact r; exact absurd q (by omega)
      clear hr25
      exact B428 _ _ _ ls hu hp hP hD hS (by (try simp only [i_lt, i_le, i_eq, Int32.toInt_toInt64, Int32.reduceToInt, Int64.reduceToInt, true_and, and_true, false_and, and_false, false_or, or_false, true_or, or_true, not_true_eq_false, not_false_eq_true, ne_eq, forall_const, true_implies, false_implies, implies_true] at ex0 ex1 eb27 fb27 ⊢) <;> omega) (by (try simp only [i_lt, i_le, i_eq, Int32.toInt_toInt64, Int32.reduceToInt, Int64.reduceToInt, true_and, and_true, false_and, and_false, false_or, or_false, true_or, or_true, not_true_eq_false, not_false_eq_true, ne_eq, forall_const, true_implies, false_implies, implies_true] at ex0 ex1 eb27 fb27 ⊢) <;> omega) (lv_sub hl [0] rfl)
    · have eb28 : r25.toInt = 1 := by rcases hr25 with ⟨q, -⟩ | ⟨q, -⟩; exact absurd (i_eq.mpr q) c26; exact q
      have fb28 : (u.2.2.1 h0 12).toInt = 0 := by rcases hr25 with ⟨q, r⟩ | ⟨q, r⟩; exact absurd q (by omega); exact r
      clear hr25
      refine lv_aload_n hx hb dX12_readLine_415 rfl (lv_at hl 0 rfl) ?_
      refine pget (ci := 12) (v := .int (u.2.2.1 h0 10)) (C := RX12) (T := TX12) (N := 34) hx hb hts i_X12 hown hK hP m_h0 (cF12 k_h0) rfl 10 (by decide) (hts (.fieldLink RX12 98 "BellowsRowModel" "token" "I") (by decide +kernel)) (fun _ h9 => h9) rfl dX12_readLine_416 ?_
      refine lv_iconst (v := 3) hx hb dX12_readLine_419 (by decide) ?_
      refine lv_icmp_eq (tgt := 428) hx hb dX12_readLine_420 (by decide) (fun c29 => ?_) (fun c29 => ?_)
      · exact B428 _ _ _ ls hu hp hP hD hS (by (try simp only [i_lt, i_le, i_eq, Int32.toInt_toInt64, Int32.reduceToInt, Int64.reduceToInt, true_and, and_true, false_and, and_false, false_or, or_false, true_or, or_true, not_true_eq_false, not_false_eq_true, ne_eq, forall_const, true_implies, false_implies, implies_true] at ex0 ex1 eb28 fb28 c29 ⊢) <;> omega) (by (try simp only [i_lt, i_le, i_eq, Int32.toInt_toInt64, Int32.reduceToInt, Int64.reduceToInt, true_and, and_true, false_and, and_false, false_or, or_false, true_or, or_true, not_true_eq_false, not_false_eq_true, ne_eq, forall_const, true_implies, false_implies, implies_true] at ex0 ex1 eb28 fb28 c29 ⊢) <;> omega) (lv_sub hl [0] rfl)
      · refine lv_aload_n hx hb dX12_readLine_423 rfl (lv_at hl 0 rfl) ?_
        refine lv_iconst (v := 1) hx hb dX12_readLine_424 (by decide) ?_
        refine wvV (C := RX12) (As := [.int 1]) (rest := []) ⟨hx, hb, hml, hown, hts⟩ (fun sz => t_X12_errs l D k u hu h0 m_h0 k_h0 1 (by decide) sz) (cwV 1 hts gX12_readLine_X12_errs rfl rfl rfl (by decide +kernel) ⟨Nat.le_of_ble_eq_true rfl, Nat.le_of_ble_eq_true rfl⟩) hP hK hD hN hS hA (precv hK hP m_h0 (cF12 k_h0) rfl) rfl hl.1 rfl (Nat.le_of_ble_eq_true rfl) dX12_readLine_425 ⟨Nat.le_of_ble_eq_true rfl, Nat.le_of_ble_eq_true rfl⟩ (fun u31 H locs hqu31 hP hD hS => ?_)
        obtain ⟨hu, hxu31, z32, hr30⟩ := hqu31
        have hp := PX.trans hp hxu31
        have w33 : (u31.2.2.1 a14 0).toInt = (u.2.2.1 a14 0).toInt := congrArg Int32.toInt (z32 a14 m_a14 k_a14 0)
        have w34 : (u31.2.2.1 a14 1).toInt = (u.2.2.1 a14 1).toInt := congrArg Int32.toInt (z32 a14 m_a14 k_a14 1)
        have w35 : (u31.2.2.1 a14 2).toInt = (u.2.2.1 a14 2).toInt := congrArg Int32.toInt (z32 a14 m_a14 k_a14 2)
        have w36 : (u31.2.2.1 a14 3).toInt = (u.2.2.1 a14 3).toInt := congrArg Int32.toInt (z32 a14 m_a14 k_a14 3)
        have w37 : (u31.2.2.1 a14 4).toInt = (u.2.2.1 a14 4).toInt := congrArg Int32.toInt (z32 a14 m_a14 k_a14 4)
        have w38 : (u31.2.2.1 a14 5).toInt = (u.2.2.1 a14 5).toInt := congrArg Int32.toInt (z32 a14 m_a14 k_a14 5)
        exact B428 _ _ _ ls hu hp hP hD hS (by (try simp only [i_lt, i_le, i_eq, Int32.toInt_toInt64, Int32.reduceToInt, Int64.reduceToInt, true_and, and_true, false_and, and_false, false_or, or_false, true_or, or_true, not_true_eq_false, not_false_eq_true, ne_eq, forall_const, true_implies, false_implies, implies_true] at ex0 ex1 eb28 fb28 w33 w34 w35 w36 w37 w38 hr30 ⊢) <;> omega) (by (try simp only [i_lt, i_le, i_eq, Int32.toInt_toInt64, Int32.reduceToInt, Int64.reduceToInt, true_and, and_true, false_and, and_false, false_or, or_false, true_or, or_true, not_true_eq_false, not_false_eq_true, ne_eq, forall_const, true_implies, false_implies, implies_true] at ex0 ex1 eb28 fb28 w33 w34 w35 w36 w37 w38 hr30 ⊢) <;> omega) (lv_sub hl [0] rfl)
  have B248 : ∀ (u : PSt) (H : Heap) (locs : List Loc) (ls : Array Slot), WT u → PX u0 u → va_P D vwCl (PW k u) H → va_D A (PW k u) → va_S A s.heap H locs → ((u.2.2.1 a14 0).toInt = (u0.2.2.1 a14 0).toInt) → lv_has ls 3 [(0, .ref h0)] → W p l e (headSpec wsX12_readLine ({ frames := 9, cells := 0, slots := 0, locals := 197 })).room s m ([.ref h0] : List Value).toArray below meth c H locs 0 0 (MQ below (va_Qv (fun v => WT v ∧ PX u0 v ∧ (((v.2.2.1 h0 12).toInt = 0 → ((v.2.2.1 (ar u0 h0 14) 0).toInt = (u0.2.2.1 (ar u0 h0 14) 0).toInt + 1 ∧ (u0.2.2.1 (ar u0 h0 14) 0).toInt ≤ 59)) ∧ (u0.2.2.1 (ar u0 h0 14) 0).toInt ≤ (v.2.2.1 (ar u0 h0 14) 0).toInt)) (WB D A (PW k)) A) ([.ref h0] : List Value).toArray s 0 0 A) (F0 m 248 ls []) := by
    intro u H locs ls  hu hp hP hD hS ex0 hl
    refine lv_aload_n hx hb dX12_readLine_248 rfl (lv_at hl 0 rfl) ?_
    refine lv_iconst (v := 3) hx hb dX12_readLine_249 (by decide) ?_
    have k_h0 : u.2.1 h0 = 12 := (hp h0 m0_h0).2.1.trans k0_h0
    have m_h0 : h0 ∈ u.1 := (hp h0 m0_h0).1
    have k_a14 : u.2.1 a14 = 51 := (hp a14 m0_a14).2.1.trans k0_a14
    have m_a14 : a14 ∈ u.1 := (hp a14 m0_a14).1
    refine wvV (C := RX12) (As := [.int 3]) (rest := []) ⟨hx, hb, hml, hown, hts⟩ (fun sz => t_X12_errs l D k u hu h0 m_h0 k_h0 3 (by decide) sz) (cwV 1 hts gX12_readLine_X12_errs rfl rfl rfl (by decide +kernel) ⟨Nat.le_of_ble_eq_true rfl, Nat.le_of_ble_eq_true rfl⟩) hP hK hD hN hS hA (precv hK hP m_h0 (cF12 k_h0) rfl) rfl hl.1 rfl (Nat.le_of_ble_eq_true rfl) dX12_readLine_250 ⟨Nat.le_of_ble_eq_true rfl, Nat.le_of_ble_eq_true rfl⟩ (fun u40 H locs hqu40 hP hD hS => ?_)
    obtain ⟨hu, hxu40, z41, hr39⟩ := hqu40
    have hp := PX.trans hp hxu40
    have w42 : (u40.2.2.1 a14 0).toInt = (u.2.2.1 a14 0).toInt := congrArg Int32.toInt (z41 a14 m_a14 k_a14 0)
    have w43 : (u40.2.2.1 a14 1).toInt = (u.2.2.1 a14 1).toInt := congrArg Int32.toInt (z41 a14 m_a14 k_a14 1)
    have w44 : (u40.2.2.1 a14 2).toInt = (u.2.2.1 a14 2).toInt := congrArg Int32.toInt (z41 a14 m_a14 k_a14 2)
    have w45 : (u40.2.2.1 a14 3).toInt = (u.2.2.1 a14 3).toInt := congrArg Int32.toInt (z41 a14 m_a14 k_a14 3)
    have w46 : (u40.2.2.1 a14 4).toInt = (u.2.2.1 a14 4).toInt := congrArg Int32.toInt (z41 a14 m_a14 k_a14 4)
    have w47 : (u40.2.2.1 a14 5).toInt = (u.2.2.1 a14 5).toInt := congrArg Int32.toInt (z41 a14 m_a14 k_a14 5)
    refine lv_aload_n hx hb dX12_readLine_253 rfl (lv_at hl 0 rfl) ?_
    have k_h0 : u40.2.1 h0 = 12 := (hp h0 m0_h0).2.1.trans k0_h0
    have m_h0 : h0 ∈ u40.1 := (hp h0 m0_h0).1
    have k_a14 : u40.2.1 a14 = 51 := (hp a14 m0_a14).2.1.trans k0_a14
    have m_a14 : a14 ∈ u40.1 := (hp a14 m0_a14).1
    refine rvi (C := RX12) (As := []) (rest := []) ⟨hx, hb, hml, hown, hts⟩ (t_X12_good l D k u40 hu h0 m_h0 k_h0 ) (cwV 0 hts gX12_readLine_X12_good rfl rfl rfl (by decide +kernel) ⟨Nat.le_of_ble_eq_true rfl, Nat.le_of_ble_eq_true rfl⟩) hP hK (precv hK hP m_h0 (cF12 k_h0) rfl) rfl hl.1 rfl (Nat.le_of_ble_eq_true rfl) dX12_readLine_254 ⟨Nat.le_of_ble_eq_true rfl, Nat.le_of_ble_eq_true rfl⟩ (fun r48 hr48 => ?_)
    refine lv_if_ne (tgt := 261) hx hb dX12_readLine_257 (by decide) (fun c49 => ?_) (fun c49 => ?_)
    · have eb50 : r48.toInt = 1 := by rcases hr48 with ⟨q, -⟩ | ⟨q, -⟩; exact absurd (i_eq.mpr q) c49; exact q
      have fb50 : (u40.2.2.1 h0 12).toInt = 0 := by rcases hr48 with ⟨q, r⟩ | ⟨q, r⟩; exact absurd q (by omega); exact r
      clear hr48
      exact absurd fb50 (by (try simp only [i_lt, i_le, i_eq, Int32.toInt_toInt64, Int32.reduceToInt, Int64.reduceToInt, true_and, and_true, false_and, and_false, false_or, or_false, true_or, or_true, not_true_eq_false, not_false_eq_true, ne_eq, forall_const, true_implies, false_implies, implies_true] at ex0 w42 w43 w44 w45 w46 w47 hr39 hr48 ⊢) <;> omega)
    · have eb51 : r48.toInt = 0 := by rcases hr48 with ⟨q, -⟩ | ⟨q, -⟩; exact q; (exact absurd (c49) (fun w => by rw [w] at q; exact absurd q (by decide)))
      have fb51 : (u40.2.2.1 h0 12).toInt ≠ 0 := by rcases hr48 with ⟨q, r⟩ | ⟨q, r⟩; exact r; exact absurd q (by omega)
      clear hr48
      exact W.vret hx hb hr (fun t ht hW => ⟨⟨u40, rfl, ⟨hu, hp, (show ((u40.2.2.1 h0 12).toInt = 0 → ((u40.2.2.1 (ar u0 h0 14) 0).toInt = (u0.2.2.1 (ar u0 h0 14) 0).toInt + 1 ∧ (u0.2.2.1 (ar u0 h0 14) 0).toInt ≤ 59)) ∧ (u0.2.2.1 (ar u0 h0 14) 0).toInt ≤ (u40.2.2.1 (ar u0 h0 14) 0).toInt from by (simp only [ar_eq q0_14]); (try simp only [i_lt, i_le, i_eq, Int32.toInt_toInt64, Int32.reduceToInt, Int64.reduceToInt, true_and, and_true, false_and, and_false, false_or, or_false, true_or, or_true, not_true_eq_false, not_false_eq_true, ne_eq, forall_const, true_implies, false_implies, implies_true] at ex0 w42 w43 w44 w45 w46 w47 hr39 eb51 fb51 ⊢) <;> omega)⟩, by rw [ht]; exact hP, hD⟩, hS.F ht⟩) hS.2.2 dX12_readLine_260
  have B227 : ∀ (u : PSt) (H : Heap) (locs : List Loc) (ls : Array Slot), WT u → PX u0 u → va_P D vwCl (PW k u) H → va_D A (PW k u) → va_S A s.heap H locs → ((u.2.2.1 a14 0).toInt = (u0.2.2.1 a14 0).toInt) → lv_has ls 3 [(0, .ref h0)] → W p l e (headSpec wsX12_readLine ({ frames := 9, cells := 0, slots := 0, locals := 197 })).room s m ([.ref h0] : List Value).toArray below meth c H locs 0 0 (MQ below (va_Qv (fun v => WT v ∧ PX u0 v ∧ (((v.2.2.1 h0 12).toInt = 0 → ((v.2.2.1 (ar u0 h0 14) 0).toInt = (u0.2.2.1 (ar u0 h0 14) 0).toInt + 1 ∧ (u0.2.2.1 (ar u0 h0 14) 0).toInt ≤ 59)) ∧ (u0.2.2.1 (ar u0 h0 14) 0).toInt ≤ (v.2.2.1 (ar u0 h0 14) 0).toInt)) (WB D A (PW k)) A) ([.ref h0] : List Value).toArray s 0 0 A) (F0 m 227 ls []) := by
    intro u H locs ls  hu hp hP hD hS ex0 hl
    refine lv_iconst (v := 1) hx hb dX12_readLine_227 (by decide) ?_
    refine lv_goto (tgt := 232) hx hb dX12_readLine_228 (by decide) ?_
    refine lv_istore_n (lv' := [(2, .int 1), (0, .ref h0)]) hx hb dX12_readLine_232 rfl hl (by decide) rfl (fun ls hl => ?_)
    refine lv_iload_n hx hb dX12_readLine_233 rfl (lv_at hl 0 rfl) ?_
    refine lv_if_ne (tgt := 248) hx hb dX12_readLine_234 (by decide) (fun _ => ?_) (fun h => absurd h (by (try simp only [i_lt, i_le, i_eq, Int32.toInt_toInt64, Int32.reduceToInt, Int64.reduceToInt, true_and, and_true, false_and, and_false, false_or, or_false, true_or, or_true, not_true_eq_false, not_false_eq_true, ne_eq, forall_const, true_implies, false_implies, implies_true] at ex0 ⊢) <;> omega))
    exact B248 _ _ _ ls hu hp hP hD hS (by (try simp only [i_lt, i_le, i_eq, Int32.toInt_toInt64, Int32.reduceToInt, Int64.reduceToInt, true_and, and_true, false_and, and_false, false_or, or_false, true_or, or_true, not_true_eq_false, not_false_eq_true, ne_eq, forall_const, true_implies, false_implies, implies_true] at ex0 ⊢) <;> omega) (lv_sub hl [1] rfl)
  have B231 : ∀ (u : PSt) (H : Heap) (locs : List Loc) (ls : Array Slot), WT u → PX u0 u → va_P D vwCl (PW k u) H → va_D A (PW k u) → va_S A s.heap H locs → (isP u h0 44 → (u.2.2.1 a14 1).toInt ≤ 7) → (isP u h0 45 → (u.2.2.1 a14 2).toInt ≤ 11) → (isP u h0 70 → (u.2.2.1 a14 3).toInt ≤ 11) → (isP u h0 71 → (u.2.2.1 a14 4).toInt ≤ 11) → (isP u h0 73 → (u.2.2.1 a14 5).toInt ≤ 19) → ((u.2.2.1 a14 0).toInt = (u0.2.2.1 a14 0).toInt) → lv_has ls 3 [(0, .ref h0)] → W p l e (headSpec wsX12_readLine ({ frames := 9, cells := 0, slots := 0, locals := 197 })).room s m ([.ref h0] : List Value).toArray below meth c H locs 0 0 (MQ below (va_Qv (fun v => WT v ∧ PX u0 v ∧ (((v.2.2.1 h0 12).toInt = 0 → ((v.2.2.1 (ar u0 h0 14) 0).toInt = (u0.2.2.1 (ar u0 h0 14) 0).toInt + 1 ∧ (u0.2.2.1 (ar u0 h0 14) 0).toInt ≤ 59)) ∧ (u0.2.2.1 (ar u0 h0 14) 0).toInt ≤ (v.2.2.1 (ar u0 h0 14) 0).toInt)) (WB D A (PW k)) A) ([.ref h0] : List Value).toArray s 0 0 A) (F0 m 231 ls []) := by
    intro u H locs ls  hu hp hP hD hS ex0 ex1 ex2 ex3 ex4 ex5 hl
    refine lv_iconst (v := 0) hx hb dX12_readLine_231 (by decide) ?_
    refine lv_istore_n (lv' := [(2, .int 0), (0, .ref h0)]) hx hb dX12_readLine_232 rfl hl (by decide) rfl (fun ls hl => ?_)
    refine lv_iload_n hx hb dX12_readLine_233 rfl (lv_at hl 0 rfl) ?_
    refine lv_if_ne (tgt := 248) hx hb dX12_readLine_234 (by decide) (fun h => absurd (by (try simp only [i_lt, i_le, i_eq, Int32.toInt_toInt64, Int32.reduceToInt, Int64.reduceToInt, true_and, and_true, false_and, and_false, false_or, or_false, true_or, or_true, not_true_eq_false, not_false_eq_true, ne_eq, forall_const, true_implies, false_implies, implies_true] at ex5 ⊢) <;> omega) h) (fun _ => ?_)
    refine lv_aload_n hx hb dX12_readLine_237 rfl (lv_at hl 1 rfl) ?_
    have k_h0 : u.2.1 h0 = 12 := (hp h0 m0_h0).2.1.trans k0_h0
    have m_h0 : h0 ∈ u.1 := (hp h0 m0_h0).1
    have k_a14 : u.2.1 a14 = 51 := (hp a14 m0_a14).2.1.trans k0_a14
    have m_a14 : a14 ∈ u.1 := (hp a14 m0_a14).1
    refine pget (ci := 12) (v := va_rf (u.2.2.2.2 h0 14)) (C := RX12) (T := TX12) (N := 34) hx hb hts i_X12 hown hK hP m_h0 (cF12 k_h0) rfl 14 (by decide) (hts (.fieldLink RX12 34 "BellowsRowModel" "fresh" "[I") (by decide +kernel)) (fun _ h9 => h9) rfl dX12_readLine_238 ?_
    refine W.eq (g2 := F0 m 241 ls [.ref a14]) (by rw [(((hp h0 m0_h0).2.2.2.2.2.1 k0_h0 14).trans q0_14)]; rfl) ?_
    refine lv_iconst (v := 0) hx hb dX12_readLine_241 (by decide) ?_
    refine palI hx hb hK hP m_a14 (cF51 k_a14) 1 rfl (vp_in_iff.mpr (by decide)) dX12_readLine_242 ?_
    refine lv_topi (fun x52 ex52 => ?_)
    have tx52 : x52.toInt = (u.2.2.1 a14 0).toInt := congrArg Int32.toInt ex52
    have g53 : 0 ≤ x52.toInt ∧ x52.toInt ≤ 60 := by have g : okI (u.2.1 a14) (0) (u.2.2.1 a14 (0)) := (hu a14 m_a14).2.2.2 (0); rw [k_a14, ← (show x52 = u.2.2.1 a14 (0) from ex52)] at g; have g : okW (0) x52 := g; unfold okW at g; (try simp only [i_lt, i_le, i_eq, Int32.toInt_toInt64, Int32.reduceToInt, Int64.reduceToInt, true_and, and_true, false_and, and_false, false_or, or_false, true_or, or_true, not_true_eq_false, not_false_eq_true, ne_eq, forall_const, true_implies, false_implies, implies_true] at ex5 tx52 g ⊢) <;> omega
    refine lv_bipush (v := 60) hx hb dX12_readLine_243 (by decide) ?_
    refine lv_icmp_ne (tgt := 253) hx hb dX12_readLine_245 (by decide) (fun c54 => ?_) (fun c54 => ?_)
    · refine lv_aload_n hx hb dX12_readLine_253 rfl (lv_at hl 1 rfl) ?_
      refine rvi (C := RX12) (As := []) (rest := []) ⟨hx, hb, hml, hown, hts⟩ (t_X12_good l D k u hu h0 m_h0 k_h0 ) (cwV 0 hts gX12_readLine_X12_good rfl rfl rfl (by decide +kernel) ⟨Nat.le_of_ble_eq_true rfl, Nat.le_of_ble_eq_true rfl⟩) hP hK (precv hK hP m_h0 (cF12 k_h0) rfl) rfl hl.1 rfl (Nat.le_of_ble_eq_true rfl) dX12_readLine_254 ⟨Nat.le_of_ble_eq_true rfl, Nat.le_of_ble_eq_true rfl⟩ (fun r55 hr55 => ?_)
      refine lv_if_ne (tgt := 261) hx hb dX12_readLine_257 (by decide) (fun c56 => ?_) (fun c56 => ?_)
      · have eb57 : r55.toInt = 1 := by rcases hr55 with ⟨q, -⟩ | ⟨q, -⟩; exact absurd (i_eq.mpr q) c56; exact q
        have fb57 : (u.2.2.1 h0 12).toInt = 0 := by rcases hr55 with ⟨q, r⟩ | ⟨q, r⟩; exact absurd q (by omega); exact r
        clear hr55
        refine lv_aload_n hx hb dX12_readLine_261 rfl (lv_at hl 1 rfl) ?_
        refine va_ldcS (own := RX12) (tx := "pot") (q := tt.1 44) hx hb hown (hE.2.1 (RX12, 171, "pot", 44) (by decide +kernel)) dX12_readLine_262 ?_
        refine xiV (C := RX12) (As := [.ref (tt.1 44)]) (rest := []) ⟨hx, hb, hml, hown, hts⟩ (fun sz => t_X12_takes l D k tt u hu h0 m_h0 k_h0 44 (by decide) sz) (cwV 1 hts gX12_readLine_X12_takes rfl rfl rfl (by decide +kernel) ⟨Nat.le_of_ble_eq_true rfl, Nat.le_of_ble_eq_true rfl⟩) hP hK hD hN hE hS hA (precv hK hP m_h0 (cF12 k_h0) rfl) rfl hl.1 rfl (Nat.le_of_ble_eq_true rfl) dX12_readLine_264 ⟨Nat.le_of_ble_eq_true rfl, Nat.le_of_ble_eq_true rfl⟩ (fun r58 u59 H locs hqu59 hP hD hS => ?_)
        obtain ⟨hu, hxu59, z60, hr58⟩ := hqu59
        rcases hr58 with ⟨er58, hnr58, sameu59⟩ | ⟨er58, hir58, har58⟩
        · have sameu59 := sameu59.symm
          subst sameu59
          refine lv_if_eq (tgt := 277) hx hb dX12_readLine_267 (by decide) (fun _ => ?_) (fun h => absurd (by (try simp only [i_lt, i_le, i_eq, Int32.toInt_toInt64, Int32.reduceToInt, Int64.reduceToInt, true_and, and_true, false_and, and_false, false_or, or_false, true_or, or_true, not_true_eq_false, not_false_eq_true, ne_eq, forall_const, true_implies, false_implies, implies_true] at ex5 tx52 g53 c54 eb57 fb57 er58 ⊢) <;> omega) h)
          refine lv_aload_n hx hb dX12_readLine_277 rfl (lv_at hl 1 rfl) ?_
          refine va_ldcS (own := RX12) (tx := "pipe") (q := tt.1 45) hx hb hown (hE.2.1 (RX12, 173, "pipe", 45) (by decide +kernel)) dX12_readLine_278 ?_
          refine xiV (C := RX12) (As := [.ref (tt.1 45)]) (rest := []) ⟨hx, hb, hml, hown, hts⟩ (fun sz => t_X12_takes l D k tt u hu h0 m_h0 k_h0 45 (by decide) sz) (cwV 1 hts gX12_readLine_X12_takes rfl rfl rfl (by decide +kernel) ⟨Nat.le_of_ble_eq_true rfl, Nat.le_of_ble_eq_true rfl⟩) hP hK hD hN hE hS hA (precv hK hP m_h0 (cF12 k_h0) rfl) rfl hl.1 rfl (Nat.le_of_ble_eq_true rfl) dX12_readLine_280 ⟨Nat.le_of_ble_eq_true rfl, Nat.le_of_ble_eq_true rfl⟩ (fun r61 u62 H locs hqu62 hP hD hS => ?_)
          obtain ⟨hu, hxu62, z63, hr61⟩ := hqu62
          rcases hr61 with ⟨er61, hnr61, sameu62⟩ | ⟨er61, hir61, har61⟩
          · have sameu62 := sameu62.symm
            subst sameu62
            refine lv_if_eq (tgt := 293) hx hb dX12_readLine_283 (by decide) (fun _ => ?_) (fun h => absurd (by (try simp only [i_lt, i_le, i_eq, Int32.toInt_toInt64, Int32.reduceToInt, Int64.reduceToInt, true_and, and_true, false_and, and_false, false_or, or_false, true_or, or_true, not_true_eq_false, not_false_eq_true, ne_eq, forall_const, true_implies, false_implies, implies_true] at ex5 tx52 g53 c54 eb57 fb57 er58 er61 ⊢) <;> omega) h)
            refine lv_aload_n hx hb dX12_readLine_293 rfl (lv_at hl 1 rfl) ?_
            refine va_ldcS (own := RX12) (tx := "run") (q := tt.1 67) hx hb hown (hE.2.1 (RX12, 255, "run", 67) (by decide +kernel)) dX12_readLine_294 ?_
            refine xiV (C := RX12) (As := [.ref (tt.1 67)]) (rest := []) ⟨hx, hb, hml, hown, hts⟩ (fun sz => t_X12_takes l D k tt u hu h0 m_h0 k_h0 67 (by decide) sz) (cwV 1 hts gX12_readLine_X12_takes rfl rfl rfl (by decide +kernel) ⟨Nat.le_of_ble_eq_true rfl, Nat.le_of_ble_eq_true rfl⟩) hP hK hD hN hE hS hA (precv hK hP m_h0 (cF12 k_h0) rfl) rfl hl.1 rfl (Nat.le_of_ble_eq_true rfl) dX12_readLine_296 ⟨Nat.le_of_ble_eq_true rfl, Nat.le_of_ble_eq_true rfl⟩ (fun r64 u65 H locs hqu65 hP hD hS => ?_)
            obtain ⟨hu, hxu65, z66, hr64⟩ := hqu65
            rcases hr64 with ⟨er64, hnr64, sameu65⟩ | ⟨er64, hir64, har64⟩
            · have sameu65 := sameu65.symm
              subst sameu65
              refine lv_if_eq (tgt := 309) hx hb dX12_readLine_299 (by decide) (fun _ => ?_) (fun h => absurd (by (try simp only [i_lt, i_le, i_eq, Int32.toInt_toInt64, Int32.reduceToInt, Int64.reduceToInt, true_and, and_true, false_and, and_false, false_or, or_false, true_or, or_true, not_true_eq_false, not_false_eq_true, ne_eq, forall_const, true_implies, false_implies, implies_true] at ex5 tx52 g53 c54 eb57 fb57 er58 er61 er64 ⊢) <;> omega) h)
              refine lv_aload_n hx hb dX12_readLine_309 rfl (lv_at hl 1 rfl) ?_
              refine va_ldcSw (own := RX12) (tx := "swing") (q := tt.1 68) hx hb hown (hE.2.1 (RX12, 257, "swing", 68) (by decide +kernel)) dX12_readLine_310 ?_
              refine xiV (C := RX12) (As := [.ref (tt.1 68)]) (rest := []) ⟨hx, hb, hml, hown, hts⟩ (fun sz => t_X12_takes l D k tt u hu h0 m_h0 k_h0 68 (by decide) sz) (cwV 1 hts gX12_readLine_X12_takes rfl rfl rfl (by decide +kernel) ⟨Nat.le_of_ble_eq_true rfl, Nat.le_of_ble_eq_true rfl⟩) hP hK hD hN hE hS hA (precv hK hP m_h0 (cF12 k_h0) rfl) rfl hl.1 rfl (Nat.le_of_ble_eq_true rfl) dX12_readLine_313 ⟨Nat.le_of_ble_eq_true rfl, Nat.le_of_ble_eq_true rfl⟩ (fun r67 u68 H locs hqu68 hP hD hS => ?_)
              obtain ⟨hu, hxu68, z69, hr67⟩ := hqu68
              rcases hr67 with ⟨er67, hnr67, sameu68⟩ | ⟨er67, hir67, har67⟩
              · have sameu68 := sameu68.symm
                subst sameu68
                refine lv_if_eq (tgt := 326) hx hb dX12_readLine_316 (by decide) (fun _ => ?_) (fun h => absurd (by (try simp only [i_lt, i_le, i_eq, Int32.toInt_toInt64, Int32.reduceToInt, Int64.reduceToInt, true_and, and_true, false_and, and_false, false_or, or_false, true_or, or_true, not_true_eq_false, not_false_eq_true, ne_eq, forall_const, true_implies, false_implies, implies_true] at ex5 tx52 g53 c54 eb57 fb57 er58 er61 er64 er67 ⊢) <;> omega) h)
                refine lv_aload_n hx hb dX12_readLine_326 rfl (lv_at hl 1 rfl) ?_
                refine va_ldcSw (own := RX12) (tx := "wind") (q := tt.1 69) hx hb hown (hE.2.1 (RX12, 259, "wind", 69) (by decide +kernel)) dX12_readLine_327 ?_
                refine xiV (C := RX12) (As := [.ref (tt.1 69)]) (rest := []) ⟨hx, hb, hml, hown, hts⟩ (fun sz => t_X12_takes l D k tt u hu h0 m_h0 k_h0 69 (by decide) sz) (cwV 1 hts gX12_readLine_X12_takes rfl rfl rfl (by decide +kernel) ⟨Nat.le_of_ble_eq_true rfl, Nat.le_of_ble_eq_true rfl⟩) hP hK hD hN hE hS hA (precv hK hP m_h0 (cF12 k_h0) rfl) rfl hl.1 rfl (Nat.le_of_ble_eq_true rfl) dX12_readLine_330 ⟨Nat.le_of_ble_eq_true rfl, Nat.le_of_ble_eq_true rfl⟩ (fun r70 u71 H locs hqu71 hP hD hS => ?_)
                obtain ⟨hu, hxu71, z72, hr70⟩ := hqu71
                rcases hr70 with ⟨er70, hnr70, sameu71⟩ | ⟨er70, hir70, har70⟩
                · have sameu71 := sameu71.symm
                  subst sameu71
                  refine lv_if_eq (tgt := 343) hx hb dX12_readLine_333 (by decide) (fun _ => ?_) (fun h => absurd (by (try simp only [i_lt, i_le, i_eq, Int32.toInt_toInt64, Int32.reduceToInt, Int64.reduceToInt, true_and, and_true, false_and, and_false, false_or, or_false, true_or, or_true, not_true_eq_false, not_false_eq_true, ne_eq, forall_const, true_implies, false_implies, implies_true] at ex5 tx52 g53 c54 eb57 fb57 er58 er61 er64 er67 er70 ⊢) <;> omega) h)
                  refine lv_aload_n hx hb dX12_readLine_343 rfl (lv_at hl 1 rfl) ?_
                  refine va_ldcSw (own := RX12) (tx := "room") (q := tt.1 70) hx hb hown (hE.2.1 (RX12, 261, "room", 70) (by decide +kernel)) dX12_readLine_344 ?_
                  refine xiV (C := RX12) (As := [.ref (tt.1 70)]) (rest := []) ⟨hx, hb, hml, hown, hts⟩ (fun sz => t_X12_takes l D k tt u hu h0 m_h0 k_h0 70 (by decide) sz) (cwV 1 hts gX12_readLine_X12_takes rfl rfl rfl (by decide +kernel) ⟨Nat.le_of_ble_eq_true rfl, Nat.le_of_ble_eq_true rfl⟩) hP hK hD hN hE hS hA (precv hK hP m_h0 (cF12 k_h0) rfl) rfl hl.1 rfl (Nat.le_of_ble_eq_true rfl) dX12_readLine_347 ⟨Nat.le_of_ble_eq_true rfl, Nat.le_of_ble_eq_true rfl⟩ (fun r73 u74 H locs hqu74 hP hD hS => ?_)
                  obtain ⟨hu, hxu74, z75, hr73⟩ := hqu74
                  rcases hr73 with ⟨er73, hnr73, sameu74⟩ | ⟨er73, hir73, har73⟩
                  · have sameu74 := sameu74.symm
                    subst sameu74
                    refine lv_if_eq (tgt := 360) hx hb dX12_readLine_350 (by decide) (fun _ => ?_) (fun h => absurd (by (try simp only [i_lt, i_le, i_eq, Int32.toInt_toInt64, Int32.reduceToInt, Int64.reduceToInt, true_and, and_true, false_and, and_false, false_or, or_false, true_or, or_true, not_true_eq_false, not_false_eq_true, ne_eq, forall_const, true_implies, false_implies, implies_true] at ex5 tx52 g53 c54 eb57 fb57 er58 er61 er64 er67 er70 er73 ⊢) <;> omega) h)
                    refine lv_aload_n hx hb dX12_readLine_360 rfl (lv_at hl 1 rfl) ?_
                    refine va_ldcSw (own := RX12) (tx := "person") (q := tt.1 71) hx hb hown (hE.2.1 (RX12, 263, "person", 71) (by decide +kernel)) dX12_readLine_361 ?_
                    refine xiV (C := RX12) (As := [.ref (tt.1 71)]) (rest := []) ⟨hx, hb, hml, hown, hts⟩ (fun sz => t_X12_takes l D k tt u hu h0 m_h0 k_h0 71 (by decide) sz) (cwV 1 hts gX12_readLine_X12_takes rfl rfl rfl (by decide +kernel) ⟨Nat.le_of_ble_eq_true rfl, Nat.le_of_ble_eq_true rfl⟩) hP hK hD hN hE hS hA (precv hK hP m_h0 (cF12 k_h0) rfl) rfl hl.1 rfl (Nat.le_of_ble_eq_true rfl) dX12_readLine_364 ⟨Nat.le_of_ble_eq_true rfl, Nat.le_of_ble_eq_true rfl⟩ (fun r76 u77 H locs hqu77 hP hD hS => ?_)
                    obtain ⟨hu, hxu77, z78, hr76⟩ := hqu77
                    rcases hr76 with ⟨er76, hnr76, sameu77⟩ | ⟨er76, hir76, har76⟩
                    · have sameu77 := sameu77.symm
                      subst sameu77
                      refine lv_if_eq (tgt := 377) hx hb dX12_readLine_367 (by decide) (fun _ => ?_) (fun h => absurd (by (try simp only [i_lt, i_le, i_eq, Int32.toInt_toInt64, Int32.reduceToInt, Int64.reduceToInt, true_and, and_true, false_and, and_false, false_or, or_false, true_or, or_true, not_true_eq_false, not_false_eq_true, ne_eq, forall_const, true_implies, false_implies, implies_true] at ex5 tx52 g53 c54 eb57 fb57 er58 er61 er64 er67 er70 er73 er76 ⊢) <;> omega) h)
                      refine lv_aload_n hx hb dX12_readLine_377 rfl (lv_at hl 1 rfl) ?_
                      refine va_ldcSw (own := RX12) (tx := "rule") (q := tt.1 72) hx hb hown (hE.2.1 (RX12, 265, "rule", 72) (by decide +kernel)) dX12_readLine_378 ?_
                      refine xiV (C := RX12) (As := [.ref (tt.1 72)]) (rest := []) ⟨hx, hb, hml, hown, hts⟩ (fun sz => t_X12_takes l D k tt u hu h0 m_h0 k_h0 72 (by decide) sz) (cwV 1 hts gX12_readLine_X12_takes rfl rfl rfl (by decide +kernel) ⟨Nat.le_of_ble_eq_true rfl, Nat.le_of_ble_eq_true rfl⟩) hP hK hD hN hE hS hA (precv hK hP m_h0 (cF12 k_h0) rfl) rfl hl.1 rfl (Nat.le_of_ble_eq_true rfl) dX12_readLine_381 ⟨Nat.le_of_ble_eq_true rfl, Nat.le_of_ble_eq_true rfl⟩ (fun r79 u80 H locs hqu80 hP hD hS => ?_)
                      obtain ⟨hu, hxu80, z81, hr79⟩ := hqu80
                      rcases hr79 with ⟨er79, hnr79, sameu80⟩ | ⟨er79, hir79, har79⟩
                      · have sameu80 := sameu80.symm
                        subst sameu80
                        refine lv_if_eq (tgt := 394) hx hb dX12_readLine_384 (by decide) (fun _ => ?_) (fun h => absurd (by (try simp only [i_lt, i_le, i_eq, Int32.toInt_toInt64, Int32.reduceToInt, Int64.reduceToInt, true_and, and_true, false_and, and_false, false_or, or_false, true_or, or_true, not_true_eq_false, not_false_eq_true, ne_eq, forall_const, true_implies, false_implies, implies_true] at ex5 tx52 g53 c54 eb57 fb57 er58 er61 er64 er67 er70 er73 er76 er79 ⊢) <;> omega) h)
                        refine lv_aload_n hx hb dX12_readLine_394 rfl (lv_at hl 1 rfl) ?_
                        refine va_ldcSw (own := RX12) (tx := "change") (q := tt.1 73) hx hb hown (hE.2.1 (RX12, 267, "change", 73) (by decide +kernel)) dX12_readLine_395 ?_
                        refine xiV (C := RX12) (As := [.ref (tt.1 73)]) (rest := []) ⟨hx, hb, hml, hown, hts⟩ (fun sz => t_X12_takes l D k tt u hu h0 m_h0 k_h0 73 (by decide) sz) (cwV 1 hts gX12_readLine_X12_takes rfl rfl rfl (by decide +kernel) ⟨Nat.le_of_ble_eq_true rfl, Nat.le_of_ble_eq_true rfl⟩) hP hK hD hN hE hS hA (precv hK hP m_h0 (cF12 k_h0) rfl) rfl hl.1 rfl (Nat.le_of_ble_eq_true rfl) dX12_readLine_398 ⟨Nat.le_of_ble_eq_true rfl, Nat.le_of_ble_eq_true rfl⟩ (fun r82 u83 H locs hqu83 hP hD hS => ?_)
                        obtain ⟨hu, hxu83, z84, hr82⟩ := hqu83
                        rcases hr82 with ⟨er82, hnr82, sameu83⟩ | ⟨er82, hir82, har82⟩
                        · have sameu83 := sameu83.symm
                          subst sameu83
                          refine lv_if_eq (tgt := 408) hx hb dX12_readLine_401 (by decide) (fun _ => ?_) (fun h => absurd (by (try simp only [i_lt, i_le, i_eq, Int32.toInt_toInt64, Int32.reduceToInt, Int64.reduceToInt, true_and, and_true, false_and, and_false, false_or, or_false, true_or, or_true, not_true_eq_false, not_false_eq_true, ne_eq, forall_const, true_implies, false_implies, implies_true] at ex5 tx52 g53 c54 eb57 fb57 er58 er61 er64 er67 er70 er73 er76 er79 er82 ⊢) <;> omega) h)
                          exact B408 _ _ _ ls hu hp hP hD hS (by (try simp only [i_lt, i_le, i_eq, Int32.toInt_toInt64, Int32.reduceToInt, Int64.reduceToInt, true_and, and_true, false_and, and_false, false_or, or_false, true_or, or_true, not_true_eq_false, not_false_eq_true, ne_eq, forall_const, true_implies, false_implies, implies_true] at ex5 tx52 g53 c54 eb57 fb57 er58 er61 er64 er67 er70 er73 er76 er79 er82 ⊢) <;> omega) (by (try simp only [i_lt, i_le, i_eq, Int32.toInt_toInt64, Int32.reduceToInt, Int64.reduceToInt, true_and, and_true, false_and, and_false, false_or, or_false, true_or, or_true, not_true_eq_false, not_false_eq_true, ne_eq, forall_const, true_implies, false_implies, implies_true] at ex5 tx52 g53 c54 eb57 fb57 er58 er61 er64 er67 er70 er73 er76 er79 er82 ⊢) <;> omega) (lv_sub hl [1] rfl)
                        · have hp := PX.trans hp hxu83
                          have pzr82 := ex4 hir82
                          have w85 : (u83.2.2.1 a14 0).toInt = (u.2.2.1 a14 0).toInt := congrArg Int32.toInt (z84 a14 m_a14 k_a14 0)
                          have w86 : (u83.2.2.1 a14 1).toInt = (u.2.2.1 a14 1).toInt := congrArg Int32.toInt (z84 a14 m_a14 k_a14 1)
                          have w87 : (u83.2.2.1 a14 2).toInt = (u.2.2.1 a14 2).toInt := congrArg Int32.toInt (z84 a14 m_a14 k_a14 2)
                          have w88 : (u83.2.2.1 a14 3).toInt = (u.2.2.1 a14 3).toInt := congrArg Int32.toInt (z84 a14 m_a14 k_a14 3)
                          have w89 : (u83.2.2.1 a14 4).toInt = (u.2.2.1 a14 4).toInt := congrArg Int32.toInt (z84 a14 m_a14 k_a14 4)
                          have w90 : (u83.2.2.1 a14 5).toInt = (u.2.2.1 a14 5).toInt := congrArg Int32.toInt (z84 a14 m_a14 k_a14 5)
                          refine lv_if_eq (tgt := 408) hx hb dX12_readLine_401 (by decide) (fun h => absurd h (by (try simp only [i_lt, i_le, i_eq, Int32.toInt_toInt64, Int32.reduceToInt, Int64.reduceToInt, true_and, and_true, false_and, and_false, false_or, or_false, true_or, or_true, not_true_eq_false, not_false_eq_true, ne_eq, forall_const, true_implies, false_implies, implies_true] at ex5 tx52 g53 c54 eb57 fb57 er58 er61 er64 er67 er70 er73 er76 er79 er82 har82 pzr82 w85 w86 w87 w88 w89 w90 ⊢) <;> omega)) (fun _ => ?_)
                          refine lv_aload_n hx hb dX12_readLine_404 rfl (lv_at hl 1 rfl) ?_
                          have k_h0 : u83.2.1 h0 = 12 := (hp h0 m0_h0).2.1.trans k0_h0
                          have m_h0 : h0 ∈ u83.1 := (hp h0 m0_h0).1
                          have k_a14 : u83.2.1 a14 = 51 := (hp a14 m0_a14).2.1.trans k0_a14
                          have m_a14 : a14 ∈ u83.1 := (hp a14 m0_a14).1
                          refine xvV (C := RX12) (As := []) (rest := []) ⟨hx, hb, hml, hown, hts⟩ (fun sz => t_X12_readChange l D k tt u83 hu h0 m_h0 k_h0 (by (simp only [ar_eq (((hp h0 m0_h0).2.2.2.2.2.1 k0_h0 14).trans q0_14)]); (try simp only [i_lt, i_le, i_eq, Int32.toInt_toInt64, Int32.reduceToInt, Int64.reduceToInt, true_and, and_true, false_and, and_false, false_or, or_false, true_or, or_true, not_true_eq_false, not_false_eq_true, ne_eq, forall_const, true_implies, false_implies, implies_true] at ex5 tx52 g53 c54 eb57 fb57 er58 er61 er64 er67 er70 er73 er76 er79 er82 har82 pzr82 w85 w86 w87 w88 w89 w90 ⊢) <;> omega) sz) (cwV 0 hts gX12_readLine_X12_readChange rfl rfl rfl (by decide +kernel) ⟨Nat.le_of_ble_eq_true rfl, Nat.le_of_ble_eq_true rfl⟩) hP hK hD hN hE hS hA (precv hK hP m_h0 (cF12 k_h0) rfl) rfl hl.1 rfl (Nat.le_of_ble_eq_true rfl) dX12_readLine_405 ⟨Nat.le_of_ble_eq_true rfl, Nat.le_of_ble_eq_true rfl⟩ (fun u92 H locs hqu92 hP hD hS => ?_)
                          obtain ⟨hu, hxu92, z93, hr91⟩ := hqu92
                          have hp := PX.trans hp hxu92
                          have w94 : (u92.2.2.1 a14 0).toInt = (u83.2.2.1 a14 0).toInt := congrArg Int32.toInt (z93 a14 m_a14 k_a14)
                          exact B408 _ _ _ ls hu hp hP hD hS (by (try simp only [i_lt, i_le, i_eq, Int32.toInt_toInt64, Int32.reduceToInt, Int64.reduceToInt, true_and, and_true, false_and, and_false, false_or, or_false, true_or, or_true, not_true_eq_false, not_false_eq_true, ne_eq, forall_const, true_implies, false_implies, implies_true] at ex5 tx52 g53 c54 eb57 fb57 er58 er61 er64 er67 er70 er73 er76 er79 er82 har82 pzr82 w85 w86 w87 w88 w89 w90 w94 ⊢) <;> omega) (by (try simp only [i_lt, i_le, i_eq, Int32.toInt_toInt64, Int32.reduceToInt, Int64.reduceToInt, true_and, and_true, false_and, and_false, false_or, or_false, true_or, or_true, not_true_eq_false, not_false_eq_true, ne_eq, forall_const, true_implies, false_implies, implies_true] at ex5 tx52 g53 c54 eb57 fb57 er58 er61 er64 er67 er70 er73 er76 er79 er82 har82 pzr82 w85 w86 w87 w88 w89 w90 w94 ⊢) <;> omega) (lv_sub hl [1] rfl)
                      · have hp := PX.trans hp hxu80
                        have w95 : (u80.2.2.1 a14 0).toInt = (u.2.2.1 a14 0).toInt := congrArg Int32.toInt (z81 a14 m_a14 k_a14 0)
                        have w96 : (u80.2.2.1 a14 1).toInt = (u.2.2.1 a14 1).toInt := congrArg Int32.toInt (z81 a14 m_a14 k_a14 1)
                        have w97 : (u80.2.2.1 a14 2).toInt = (u.2.2.1 a14 2).toInt := congrArg Int32.toInt (z81 a14 m_a14 k_a14 2)
                        have w98 : (u80.2.2.1 a14 3).toInt = (u.2.2.1 a14 3).toInt := congrArg Int32.toInt (z81 a14 m_a14 k_a14 3)
                        have w99 : (u80.2.2.1 a14 4).toInt = (u.2.2.1 a14 4).toInt := congrArg Int32.toInt (z81 a14 m_a14 k_a14 4)
                        have w100 : (u80.2.2.1 a14 5).toInt = (u.2.2.1 a14 5).toInt := congrArg Int32.toInt (z81 a14 m_a14 k_a14 5)
                        refine lv_if_eq (tgt := 394) hx hb dX12_readLine_384 (by decide) (fun h => absurd h (by (try simp only [i_lt, i_le, i_eq, Int32.toInt_toInt64, Int32.reduceToInt, Int64.reduceToInt, true_and, and_true, false_and, and_false, false_or, or_false, true_or, or_true, not_true_eq_false, not_false_eq_true, ne_eq, forall_const, true_implies, false_implies, implies_true] at ex5 tx52 g53 c54 eb57 fb57 er58 er61 er64 er67 er70 er73 er76 er79 har79 w95 w96 w97 w98 w99 w100 ⊢) <;> omega)) (fun _ => ?_)
                        refine lv_aload_n hx hb dX12_readLine_387 rfl (lv_at hl 1 rfl) ?_
                        have k_h0 : u80.2.1 h0 = 12 := (hp h0 m0_h0).2.1.trans k0_h0
                        have m_h0 : h0 ∈ u80.1 := (hp h0 m0_h0).1
                        have k_a14 : u80.2.1 a14 = 51 := (hp a14 m0_a14).2.1.trans k0_a14
                        have m_a14 : a14 ∈ u80.1 := (hp a14 m0_a14).1
                        refine xvV (C := RX12) (As := []) (rest := []) ⟨hx, hb, hml, hown, hts⟩ (fun sz => t_X12_readRule l D k tt u80 hu h0 m_h0 k_h0  sz) (cwV 0 hts gX12_readLine_X12_readRule rfl rfl rfl (by decide +kernel) ⟨Nat.le_of_ble_eq_true rfl, Nat.le_of_ble_eq_true rfl⟩) hP hK hD hN hE hS hA (precv hK hP m_h0 (cF12 k_h0) rfl) rfl hl.1 rfl (Nat.le_of_ble_eq_true rfl) dX12_readLine_388 ⟨Nat.le_of_ble_eq_true rfl, Nat.le_of_ble_eq_true rfl⟩ (fun u102 H locs hqu102 hP hD hS => ?_)
                        obtain ⟨hu, hxu102, z103, hr101⟩ := hqu102
                        have hp := PX.trans hp hxu102
                        have w104 : (u102.2.2.1 a14 0).toInt = (u80.2.2.1 a14 0).toInt := congrArg Int32.toInt (z103 a14 m_a14 k_a14)
                        refine lv_goto (tgt := 408) hx hb dX12_readLine_391 (by decide) ?_
                        exact B408 _ _ _ ls hu hp hP hD hS (by (try simp only [i_lt, i_le, i_eq, Int32.toInt_toInt64, Int32.reduceToInt, Int64.reduceToInt, true_and, and_true, false_and, and_false, false_or, or_false, true_or, or_true, not_true_eq_false, not_false_eq_true, ne_eq, forall_const, true_implies, false_implies, implies_true] at ex5 tx52 g53 c54 eb57 fb57 er58 er61 er64 er67 er70 er73 er76 er79 har79 w95 w96 w97 w98 w99 w100 w104 ⊢) <;> omega) (by (try simp only [i_lt, i_le, i_eq, Int32.toInt_toInt64, Int32.reduceToInt, Int64.reduceToInt, true_and, and_true, false_and, and_false, false_or, or_false, true_or, or_true, not_true_eq_false, not_false_eq_true, ne_eq, forall_const, true_implies, false_implies, implies_true] at ex5 tx52 g53 c54 eb57 fb57 er58 er61 er64 er67 er70 er73 er76 er79 har79 w95 w96 w97 w98 w99 w100 w104 ⊢) <;> omega) (lv_sub hl [1] rfl)
                    · have hp := PX.trans hp hxu77
                      have pzr76 := ex3 hir76
                      have w105 : (u77.2.2.1 a14 0).toInt = (u.2.2.1 a14 0).toInt := congrArg Int32.toInt (z78 a14 m_a14 k_a14 0)
                      have w106 : (u77.2.2.1 a14 1).toInt = (u.2.2.1 a14 1).toInt := congrArg Int32.toInt (z78 a14 m_a14 k_a14 1)
                      have w107 : (u77.2.2.1 a14 2).toInt = (u.2.2.1 a14 2).toInt := congrArg Int32.toInt (z78 a14 m_a14 k_a14 2)
                      have w108 : (u77.2.2.1 a14 3).toInt = (u.2.2.1 a14 3).toInt := congrArg Int32.toInt (z78 a14 m_a14 k_a14 3)
                      have w109 : (u77.2.2.1 a14 4).toInt = (u.2.2.1 a14 4).toInt := congrArg Int32.toInt (z78 a14 m_a14 k_a14 4)
                      have w110 : (u77.2.2.1 a14 5).toInt = (u.2.2.1 a14 5).toInt := congrArg Int32.toInt (z78 a14 m_a14 k_a14 5)
                      refine lv_if_eq (tgt := 377) hx hb dX12_readLine_367 (by decide) (fun h => absurd h (by (try simp only [i_lt, i_le, i_eq, Int32.toInt_toInt64, Int32.reduceToInt, Int64.reduceToInt, true_and, and_true, false_and, and_false, false_or, or_false, true_or, or_true, not_true_eq_false, not_false_eq_true, ne_eq, forall_const, true_implies, false_implies, implies_true] at ex5 tx52 g53 c54 eb57 fb57 er58 er61 er64 er67 er70 er73 er76 har76 pzr76 w105 w106 w107 w108 w109 w110 ⊢) <;> omega)) (fun _ => ?_)
                      refine lv_aload_n hx hb dX12_readLine_370 rfl (lv_at hl 1 rfl) ?_
                      have k_h0 : u77.2.1 h0 = 12 := (hp h0 m0_h0).2.1.trans k0_h0
                      have m_h0 : h0 ∈ u77.1 := (hp h0 m0_h0).1
                      have k_a14 : u77.2.1 a14 = 51 := (hp a14 m0_a14).2.1.trans k0_a14
                      have m_a14 : a14 ∈ u77.1 := (hp a14 m0_a14).1
                      refine xvV (C := RX12) (As := []) (rest := []) ⟨hx, hb, hml, hown, hts⟩ (fun sz => t_X12_readPerson l D k tt u77 hu h0 m_h0 k_h0 (by (simp only [ar_eq (((hp h0 m0_h0).2.2.2.2.2.1 k0_h0 14).trans q0_14)]); (try simp only [i_lt, i_le, i_eq, Int32.toInt_toInt64, Int32.reduceToInt, Int64.reduceToInt, true_and, and_true, false_and, and_false, false_or, or_false, true_or, or_true, not_true_eq_false, not_false_eq_true, ne_eq, forall_const, true_implies, false_implies, implies_true] at ex5 tx52 g53 c54 eb57 fb57 er58 er61 er64 er67 er70 er73 er76 har76 pzr76 w105 w106 w107 w108 w109 w110 ⊢) <;> omega) sz) (cwV 0 hts gX12_readLine_X12_readPerson rfl rfl rfl (by decide +kernel) ⟨Nat.le_of_ble_eq_true rfl, Nat.le_of_ble_eq_true rfl⟩) hP hK hD hN hE hS hA (precv hK hP m_h0 (cF12 k_h0) rfl) rfl hl.1 rfl (Nat.le_of_ble_eq_true rfl) dX12_readLine_371 ⟨Nat.le_of_ble_eq_true rfl, Nat.le_of_ble_eq_true rfl⟩ (fun u112 H locs hqu112 hP hD hS => ?_)
                      obtain ⟨hu, hxu112, z113, hr111⟩ := hqu112
                      have hp := PX.trans hp hxu112
                      have w114 : (u112.2.2.1 a14 0).toInt = (u77.2.2.1 a14 0).toInt := congrArg Int32.toInt (z113 a14 m_a14 k_a14)
                      refine lv_goto (tgt := 408) hx hb dX12_readLine_374 (by decide) ?_
                      exact B408 _ _ _ ls hu hp hP hD hS (by (try simp only [i_lt, i_le, i_eq, Int32.toInt_toInt64, Int32.reduceToInt, Int64.reduceToInt, true_and, and_true, false_and, and_false, false_or, or_false, true_or, or_true, not_true_eq_false, not_false_eq_true, ne_eq, forall_const, true_implies, false_implies, implies_true] at ex5 tx52 g53 c54 eb57 fb57 er58 er61 er64 er67 er70 er73 er76 har76 pzr76 w105 w106 w107 w108 w109 w110 w114 ⊢) <;> omega) (by (try simp only [i_lt, i_le, i_eq, Int32.toInt_toInt64, Int32.reduceToInt, Int64.reduceToInt, true_and, and_true, false_and, and_false, false_or, or_false, true_or, or_true, not_true_eq_false, not_false_eq_true, ne_eq, forall_const, true_implies, false_implies, implies_true] at ex5 tx52 g53 c54 eb57 fb57 er58 er61 er64 er67 er70 er73 er76 har76 pzr76 w105 w106 w107 w108 w109 w110 w114 ⊢) <;> omega) (lv_sub hl [1] rfl)
                  · have hp := PX.trans hp hxu74
                    have pzr73 := ex2 hir73
                    have w115 : (u74.2.2.1 a14 0).toInt = (u.2.2.1 a14 0).toInt := congrArg Int32.toInt (z75 a14 m_a14 k_a14 0)
                    have w116 : (u74.2.2.1 a14 1).toInt = (u.2.2.1 a14 1).toInt := congrArg Int32.toInt (z75 a14 m_a14 k_a14 1)
                    have w117 : (u74.2.2.1 a14 2).toInt = (u.2.2.1 a14 2).toInt := congrArg Int32.toInt (z75 a14 m_a14 k_a14 2)
                    have w118 : (u74.2.2.1 a14 3).toInt = (u.2.2.1 a14 3).toInt := congrArg Int32.toInt (z75 a14 m_a14 k_a14 3)
                    have w119 : (u74.2.2.1 a14 4).toInt = (u.2.2.1 a14 4).toInt := congrArg Int32.toInt (z75 a14 m_a14 k_a14 4)
                    have w120 : (u74.2.2.1 a14 5).toInt = (u.2.2.1 a14 5).toInt := congrArg Int32.toInt (z75 a14 m_a14 k_a14 5)
                    refine lv_if_eq (tgt := 360) hx hb dX12_readLine_350 (by decide) (fun h => absurd h (by (try simp only [i_lt, i_le, i_eq, Int32.toInt_toInt64, Int32.reduceToInt, Int64.reduceToInt, true_and, and_true, false_and, and_false, false_or, or_false, true_or, or_true, not_true_eq_false, not_false_eq_true, ne_eq, forall_const, true_implies, false_implies, implies_true] at ex5 tx52 g53 c54 eb57 fb57 er58 er61 er64 er67 er70 er73 har73 pzr73 w115 w116 w117 w118 w119 w120 ⊢) <;> omega)) (fun _ => ?_)
                    refine lv_aload_n hx hb dX12_readLine_353 rfl (lv_at hl 1 rfl) ?_
                    have k_h0 : u74.2.1 h0 = 12 := (hp h0 m0_h0).2.1.trans k0_h0
                    have m_h0 : h0 ∈ u74.1 := (hp h0 m0_h0).1
                    have k_a14 : u74.2.1 a14 = 51 := (hp a14 m0_a14).2.1.trans k0_a14
                    have m_a14 : a14 ∈ u74.1 := (hp a14 m0_a14).1
                    refine xvV (C := RX12) (As := []) (rest := []) ⟨hx, hb, hml, hown, hts⟩ (fun sz => t_X12_readRoom l D k tt u74 hu h0 m_h0 k_h0 (by (simp only [ar_eq (((hp h0 m0_h0).2.2.2.2.2.1 k0_h0 14).trans q0_14)]); (try simp only [i_lt, i_le, i_eq, Int32.toInt_toInt64, Int32.reduceToInt, Int64.reduceToInt, true_and, and_true, false_and, and_false, false_or, or_false, true_or, or_true, not_true_eq_false, not_false_eq_true, ne_eq, forall_const, true_implies, false_implies, implies_true] at ex5 tx52 g53 c54 eb57 fb57 er58 er61 er64 er67 er70 er73 har73 pzr73 w115 w116 w117 w118 w119 w120 ⊢) <;> omega) sz) (cwV 0 hts gX12_readLine_X12_readRoom rfl rfl rfl (by decide +kernel) ⟨Nat.le_of_ble_eq_true rfl, Nat.le_of_ble_eq_true rfl⟩) hP hK hD hN hE hS hA (precv hK hP m_h0 (cF12 k_h0) rfl) rfl hl.1 rfl (Nat.le_of_ble_eq_true rfl) dX12_readLine_354 ⟨Nat.le_of_ble_eq_true rfl, Nat.le_of_ble_eq_true rfl⟩ (fun u122 H locs hqu122 hP hD hS => ?_)
                    obtain ⟨hu, hxu122, z123, hr121⟩ := hqu122
                    have hp := PX.trans hp hxu122
                    have w124 : (u122.2.2.1 a14 0).toInt = (u74.2.2.1 a14 0).toInt := congrArg Int32.toInt (z123 a14 m_a14 k_a14)
                    refine lv_goto (tgt := 408) hx hb dX12_readLine_357 (by decide) ?_
                    exact B408 _ _ _ ls hu hp hP hD hS (by (try simp only [i_lt, i_le, i_eq, Int32.toInt_toInt64, Int32.reduceToInt, Int64.reduceToInt, true_and, and_true, false_and, and_false, false_or, or_false, true_or, or_true, not_true_eq_false, not_false_eq_true, ne_eq, forall_const, true_implies, false_implies, implies_true] at ex5 tx52 g53 c54 eb57 fb57 er58 er61 er64 er67 er70 er73 har73 pzr73 w115 w116 w117 w118 w119 w120 w124 ⊢) <;> omega) (by (try simp only [i_lt, i_le, i_eq, Int32.toInt_toInt64, Int32.reduceToInt, Int64.reduceToInt, true_and, and_true, false_and, and_false, false_or, or_false, true_or, or_true, not_true_eq_false, not_false_eq_true, ne_eq, forall_const, true_implies, false_implies, implies_true] at ex5 tx52 g53 c54 eb57 fb57 er58 er61 er64 er67 er70 er73 har73 pzr73 w115 w116 w117 w118 w119 w120 w124 ⊢) <;> omega) (lv_sub hl [1] rfl)
                · have hp := PX.trans hp hxu71
                  have w125 : (u71.2.2.1 a14 0).toInt = (u.2.2.1 a14 0).toInt := congrArg Int32.toInt (z72 a14 m_a14 k_a14 0)
                  have w126 : (u71.2.2.1 a14 1).toInt = (u.2.2.1 a14 1).toInt := congrArg Int32.toInt (z72 a14 m_a14 k_a14 1)
                  have w127 : (u71.2.2.1 a14 2).toInt = (u.2.2.1 a14 2).toInt := congrArg Int32.toInt (z72 a14 m_a14 k_a14 2)
                  have w128 : (u71.2.2.1 a14 3).toInt = (u.2.2.1 a14 3).toInt := congrArg Int32.toInt (z72 a14 m_a14 k_a14 3)
                  have w129 : (u71.2.2.1 a14 4).toInt = (u.2.2.1 a14 4).toInt := congrArg Int32.toInt (z72 a14 m_a14 k_a14 4)
                  have w130 : (u71.2.2.1 a14 5).toInt = (u.2.2.1 a14 5).toInt := congrArg Int32.toInt (z72 a14 m_a14 k_a14 5)
                  refine lv_if_eq (tgt := 343) hx hb dX12_readLine_333 (by decide) (fun h => absurd h (by (try simp only [i_lt, i_le, i_eq, Int32.toInt_toInt64, Int32.reduceToInt, Int64.reduceToInt, true_and, and_true, false_and, and_false, false_or, or_false, true_or, or_true, not_true_eq_false, not_false_eq_true, ne_eq, forall_const, true_implies, false_implies, implies_true] at ex5 tx52 g53 c54 eb57 fb57 er58 er61 er64 er67 er70 har70 w125 w126 w127 w128 w129 w130 ⊢) <;> omega)) (fun _ => ?_)
                  refine lv_aload_n hx hb dX12_readLine_336 rfl (lv_at hl 1 rfl) ?_
                  have k_h0 : u71.2.1 h0 = 12 := (hp h0 m0_h0).2.1.trans k0_h0
                  have m_h0 : h0 ∈ u71.1 := (hp h0 m0_h0).1
                  have k_a14 : u71.2.1 a14 = 51 := (hp a14 m0_a14).2.1.trans k0_a14
                  have m_a14 : a14 ∈ u71.1 := (hp a14 m0_a14).1
                  refine xvV (C := RX12) (As := []) (rest := []) ⟨hx, hb, hml, hown, hts⟩ (fun sz => t_X12_readWind l D k tt u71 hu h0 m_h0 k_h0  sz) (cwV 0 hts gX12_readLine_X12_readWind rfl rfl rfl (by decide +kernel) ⟨Nat.le_of_ble_eq_true rfl, Nat.le_of_ble_eq_true rfl⟩) hP hK hD hN hE hS hA (precv hK hP m_h0 (cF12 k_h0) rfl) rfl hl.1 rfl (Nat.le_of_ble_eq_true rfl) dX12_readLine_337 ⟨Nat.le_of_ble_eq_true rfl, Nat.le_of_ble_eq_true rfl⟩ (fun u132 H locs hqu132 hP hD hS => ?_)
                  obtain ⟨hu, hxu132, z133, hr131⟩ := hqu132
                  have hp := PX.trans hp hxu132
                  have w134 : (u132.2.2.1 a14 0).toInt = (u71.2.2.1 a14 0).toInt := congrArg Int32.toInt (z133 a14 m_a14 k_a14)
                  refine lv_goto (tgt := 408) hx hb dX12_readLine_340 (by decide) ?_
                  exact B408 _ _ _ ls hu hp hP hD hS (by (try simp only [i_lt, i_le, i_eq, Int32.toInt_toInt64, Int32.reduceToInt, Int64.reduceToInt, true_and, and_true, false_and, and_false, false_or, or_false, true_or, or_true, not_true_eq_false, not_false_eq_true, ne_eq, forall_const, true_implies, false_implies, implies_true] at ex5 tx52 g53 c54 eb57 fb57 er58 er61 er64 er67 er70 har70 w125 w126 w127 w128 w129 w130 w134 ⊢) <;> omega) (by (try simp only [i_lt, i_le, i_eq, Int32.toInt_toInt64, Int32.reduceToInt, Int64.reduceToInt, true_and, and_true, false_and, and_false, false_or, or_false, true_or, or_true, not_true_eq_false, not_false_eq_true, ne_eq, forall_const, true_implies, false_implies, implies_true] at ex5 tx52 g53 c54 eb57 fb57 er58 er61 er64 er67 er70 har70 w125 w126 w127 w128 w129 w130 w134 ⊢) <;> omega) (lv_sub hl [1] rfl)
              · have hp := PX.trans hp hxu68
                have w135 : (u68.2.2.1 a14 0).toInt = (u.2.2.1 a14 0).toInt := congrArg Int32.toInt (z69 a14 m_a14 k_a14 0)
                have w136 : (u68.2.2.1 a14 1).toInt = (u.2.2.1 a14 1).toInt := congrArg Int32.toInt (z69 a14 m_a14 k_a14 1)
                have w137 : (u68.2.2.1 a14 2).toInt = (u.2.2.1 a14 2).toInt := congrArg Int32.toInt (z69 a14 m_a14 k_a14 2)
                have w138 : (u68.2.2.1 a14 3).toInt = (u.2.2.1 a14 3).toInt := congrArg Int32.toInt (z69 a14 m_a14 k_a14 3)
                have w139 : (u68.2.2.1 a14 4).toInt = (u.2.2.1 a14 4).toInt := congrArg Int32.toInt (z69 a14 m_a14 k_a14 4)
                have w140 : (u68.2.2.1 a14 5).toInt = (u.2.2.1 a14 5).toInt := congrArg Int32.toInt (z69 a14 m_a14 k_a14 5)
                refine lv_if_eq (tgt := 326) hx hb dX12_readLine_316 (by decide) (fun h => absurd h (by (try simp only [i_lt, i_le, i_eq, Int32.toInt_toInt64, Int32.reduceToInt, Int64.reduceToInt, true_and, and_true, false_and, and_false, false_or, or_false, true_or, or_true, not_true_eq_false, not_false_eq_true, ne_eq, forall_const, true_implies, false_implies, implies_true] at ex5 tx52 g53 c54 eb57 fb57 er58 er61 er64 er67 har67 w135 w136 w137 w138 w139 w140 ⊢) <;> omega)) (fun _ => ?_)
                refine lv_aload_n hx hb dX12_readLine_319 rfl (lv_at hl 1 rfl) ?_
                have k_h0 : u68.2.1 h0 = 12 := (hp h0 m0_h0).2.1.trans k0_h0
                have m_h0 : h0 ∈ u68.1 := (hp h0 m0_h0).1
                have k_a14 : u68.2.1 a14 = 51 := (hp a14 m0_a14).2.1.trans k0_a14
                have m_a14 : a14 ∈ u68.1 := (hp a14 m0_a14).1
                refine xvV (C := RX12) (As := []) (rest := []) ⟨hx, hb, hml, hown, hts⟩ (fun sz => t_X12_readSwing l D k tt u68 hu h0 m_h0 k_h0  sz) (cwV 0 hts gX12_readLine_X12_readSwing rfl rfl rfl (by decide +kernel) ⟨Nat.le_of_ble_eq_true rfl, Nat.le_of_ble_eq_true rfl⟩) hP hK hD hN hE hS hA (precv hK hP m_h0 (cF12 k_h0) rfl) rfl hl.1 rfl (Nat.le_of_ble_eq_true rfl) dX12_readLine_320 ⟨Nat.le_of_ble_eq_true rfl, Nat.le_of_ble_eq_true rfl⟩ (fun u142 H locs hqu142 hP hD hS => ?_)
                obtain ⟨hu, hxu142, z143, hr141⟩ := hqu142
                have hp := PX.trans hp hxu142
                have w144 : (u142.2.2.1 a14 0).toInt = (u68.2.2.1 a14 0).toInt := congrArg Int32.toInt (z143 a14 m_a14 k_a14)
                refine lv_goto (tgt := 408) hx hb dX12_readLine_323 (by decide) ?_
                exact B408 _ _ _ ls hu hp hP hD hS (by (try simp only [i_lt, i_le, i_eq, Int32.toInt_toInt64, Int32.reduceToInt, Int64.reduceToInt, true_and, and_true, false_and, and_false, false_or, or_false, true_or, or_true, not_true_eq_false, not_false_eq_true, ne_eq, forall_const, true_implies, false_implies, implies_true] at ex5 tx52 g53 c54 eb57 fb57 er58 er61 er64 er67 har67 w135 w136 w137 w138 w139 w140 w144 ⊢) <;> omega) (by (try simp only [i_lt, i_le, i_eq, Int32.toInt_toInt64, Int32.reduceToInt, Int64.reduceToInt, true_and, and_true, false_and, and_false, false_or, or_false, true_or, or_true, not_true_eq_false, not_false_eq_true, ne_eq, forall_const, true_implies, false_implies, implies_true] at ex5 tx52 g53 c54 eb57 fb57 er58 er61 er64 er67 har67 w135 w136 w137 w138 w139 w140 w144 ⊢) <;> omega) (lv_sub hl [1] rfl)
            · have hp := PX.trans hp hxu65
              have w145 : (u65.2.2.1 a14 0).toInt = (u.2.2.1 a14 0).toInt := congrArg Int32.toInt (z66 a14 m_a14 k_a14 0)
              have w146 : (u65.2.2.1 a14 1).toInt = (u.2.2.1 a14 1).toInt := congrArg Int32.toInt (z66 a14 m_a14 k_a14 1)
              have w147 : (u65.2.2.1 a14 2).toInt = (u.2.2.1 a14 2).toInt := congrArg Int32.toInt (z66 a14 m_a14 k_a14 2)
              have w148 : (u65.2.2.1 a14 3).toInt = (u.2.2.1 a14 3).toInt := congrArg Int32.toInt (z66 a14 m_a14 k_a14 3)
              have w149 : (u65.2.2.1 a14 4).toInt = (u.2.2.1 a14 4).toInt := congrArg Int32.toInt (z66 a14 m_a14 k_a14 4)
              have w150 : (u65.2.2.1 a14 5).toInt = (u.2.2.1 a14 5).toInt := congrArg Int32.toInt (z66 a14 m_a14 k_a14 5)
              refine lv_if_eq (tgt := 309) hx hb dX12_readLine_299 (by decide) (fun h => absurd h (by (try simp only [i_lt, i_le, i_eq, Int32.toInt_toInt64, Int32.reduceToInt, Int64.reduceToInt, true_and, and_true, false_and, and_false, false_or, or_false, true_or, or_true, not_true_eq_false, not_false_eq_true, ne_eq, forall_const, true_implies, false_implies, implies_true] at ex5 tx52 g53 c54 eb57 fb57 er58 er61 er64 har64 w145 w146 w147 w148 w149 w150 ⊢) <;> omega)) (fun _ => ?_)
              refine lv_aload_n hx hb dX12_readLine_302 rfl (lv_at hl 1 rfl) ?_
              have k_h0 : u65.2.1 h0 = 12 := (hp h0 m0_h0).2.1.trans k0_h0
              have m_h0 : h0 ∈ u65.1 := (hp h0 m0_h0).1
              have k_a14 : u65.2.1 a14 = 51 := (hp a14 m0_a14).2.1.trans k0_a14
              have m_a14 : a14 ∈ u65.1 := (hp a14 m0_a14).1
              refine xvV (C := RX12) (As := []) (rest := []) ⟨hx, hb, hml, hown, hts⟩ (fun sz => t_X12_readRun l D k tt u65 hu h0 m_h0 k_h0  sz) (cwV 0 hts gX12_readLine_X12_readRun rfl rfl rfl (by decide +kernel) ⟨Nat.le_of_ble_eq_true rfl, Nat.le_of_ble_eq_true rfl⟩) hP hK hD hN hE hS hA (precv hK hP m_h0 (cF12 k_h0) rfl) rfl hl.1 rfl (Nat.le_of_ble_eq_true rfl) dX12_readLine_303 ⟨Nat.le_of_ble_eq_true rfl, Nat.le_of_ble_eq_true rfl⟩ (fun u152 H locs hqu152 hP hD hS => ?_)
              obtain ⟨hu, hxu152, z153, hr151⟩ := hqu152
              have hp := PX.trans hp hxu152
              have w154 : (u152.2.2.1 a14 0).toInt = (u65.2.2.1 a14 0).toInt := congrArg Int32.toInt (z153 a14 m_a14 k_a14)
              refine lv_goto (tgt := 408) hx hb dX12_readLine_306 (by decide) ?_
              exact B408 _ _ _ ls hu hp hP hD hS (by (try simp only [i_lt, i_le, i_eq, Int32.toInt_toInt64, Int32.reduceToInt, Int64.reduceToInt, true_and, and_true, false_and, and_false, false_or, or_false, true_or, or_true, not_true_eq_false, not_false_eq_true, ne_eq, forall_const, true_implies, false_implies, implies_true] at ex5 tx52 g53 c54 eb57 fb57 er58 er61 er64 har64 w145 w146 w147 w148 w149 w150 w154 ⊢) <;> omega) (by (try simp only [i_lt, i_le, i_eq, Int32.toInt_toInt64, Int32.reduceToInt, Int64.reduceToInt, true_and, and_true, false_and, and_false, false_or, or_false, true_or, or_true, not_true_eq_false, not_false_eq_true, ne_eq, forall_const, true_implies, false_implies, implies_true] at ex5 tx52 g53 c54 eb57 fb57 er58 er61 er64 har64 w145 w146 w147 w148 w149 w150 w154 ⊢) <;> omega) (lv_sub hl [1] rfl)
          · have hp := PX.trans hp hxu62
            have pzr61 := ex1 hir61
            have w155 : (u62.2.2.1 a14 0).toInt = (u.2.2.1 a14 0).toInt := congrArg Int32.toInt (z63 a14 m_a14 k_a14 0)
            have w156 : (u62.2.2.1 a14 1).toInt = (u.2.2.1 a14 1).toInt := congrArg Int32.toInt (z63 a14 m_a14 k_a14 1)
            have w157 : (u62.2.2.1 a14 2).toInt = (u.2.2.1 a14 2).toInt := congrArg Int32.toInt (z63 a14 m_a14 k_a14 2)
            have w158 : (u62.2.2.1 a14 3).toInt = (u.2.2.1 a14 3).toInt := congrArg Int32.toInt (z63 a14 m_a14 k_a14 3)
            have w159 : (u62.2.2.1 a14 4).toInt = (u.2.2.1 a14 4).toInt := congrArg Int32.toInt (z63 a14 m_a14 k_a14 4)
            have w160 : (u62.2.2.1 a14 5).toInt = (u.2.2.1 a14 5).toInt := congrArg Int32.toInt (z63 a14 m_a14 k_a14 5)
            refine lv_if_eq (tgt := 293) hx hb dX12_readLine_283 (by decide) (fun h => absurd h (by (try simp only [i_lt, i_le, i_eq, Int32.toInt_toInt64, Int32.reduceToInt, Int64.reduceToInt, true_and, and_true, false_and, and_false, false_or, or_false, true_or, or_true, not_true_eq_false, not_false_eq_true, ne_eq, forall_const, true_implies, false_implies, implies_true] at ex5 tx52 g53 c54 eb57 fb57 er58 er61 har61 pzr61 w155 w156 w157 w158 w159 w160 ⊢) <;> omega)) (fun _ => ?_)
            refine lv_aload_n hx hb dX12_readLine_286 rfl (lv_at hl 1 rfl) ?_
            have k_h0 : u62.2.1 h0 = 12 := (hp h0 m0_h0).2.1.trans k0_h0
            have m_h0 : h0 ∈ u62.1 := (hp h0 m0_h0).1
            have k_a14 : u62.2.1 a14 = 51 := (hp a14 m0_a14).2.1.trans k0_a14
            have m_a14 : a14 ∈ u62.1 := (hp a14 m0_a14).1
            refine xvV (C := RX12) (As := []) (rest := []) ⟨hx, hb, hml, hown, hts⟩ (fun sz => t_X12_readPipe l D k tt u62 hu h0 m_h0 k_h0 (by (simp only [ar_eq (((hp h0 m0_h0).2.2.2.2.2.1 k0_h0 14).trans q0_14)]); (try simp only [i_lt, i_le, i_eq, Int32.toInt_toInt64, Int32.reduceToInt, Int64.reduceToInt, true_and, and_true, false_and, and_false, false_or, or_false, true_or, or_true, not_true_eq_false, not_false_eq_true, ne_eq, forall_const, true_implies, false_implies, implies_true] at ex5 tx52 g53 c54 eb57 fb57 er58 er61 har61 pzr61 w155 w156 w157 w158 w159 w160 ⊢) <;> omega) sz) (cwV 0 hts gX12_readLine_X12_readPipe rfl rfl rfl (by decide +kernel) ⟨Nat.le_of_ble_eq_true rfl, Nat.le_of_ble_eq_true rfl⟩) hP hK hD hN hE hS hA (precv hK hP m_h0 (cF12 k_h0) rfl) rfl hl.1 rfl (Nat.le_of_ble_eq_true rfl) dX12_readLine_287 ⟨Nat.le_of_ble_eq_true rfl, Nat.le_of_ble_eq_true rfl⟩ (fun u162 H locs hqu162 hP hD hS => ?_)
            obtain ⟨hu, hxu162, z163, hr161⟩ := hqu162
            have hp := PX.trans hp hxu162
            have w164 : (u162.2.2.1 a14 0).toInt = (u62.2.2.1 a14 0).toInt := congrArg Int32.toInt (z163 a14 m_a14 k_a14)
            refine lv_goto (tgt := 408) hx hb dX12_readLine_290 (by decide) ?_
            exact B408 _ _ _ ls hu hp hP hD hS (by (try simp only [i_lt, i_le, i_eq, Int32.toInt_toInt64, Int32.reduceToInt, Int64.reduceToInt, true_and, and_true, false_and, and_false, false_or, or_false, true_or, or_true, not_true_eq_false, not_false_eq_true, ne_eq, forall_const, true_implies, false_implies, implies_true] at ex5 tx52 g53 c54 eb57 fb57 er58 er61 har61 pzr61 w155 w156 w157 w158 w159 w160 w164 ⊢) <;> omega) (by (try simp only [i_lt, i_le, i_eq, Int32.toInt_toInt64, Int32.reduceToInt, Int64.reduceToInt, true_and, and_true, false_and, and_false, false_or, or_false, true_or, or_true, not_true_eq_false, not_false_eq_true, ne_eq, forall_const, true_implies, false_implies, implies_true] at ex5 tx52 g53 c54 eb57 fb57 er58 er61 har61 pzr61 w155 w156 w157 w158 w159 w160 w164 ⊢) <;> omega) (lv_sub hl [1] rfl)
        · have hp := PX.trans hp hxu59
          have pzr58 := ex0 hir58
          have w165 : (u59.2.2.1 a14 0).toInt = (u.2.2.1 a14 0).toInt := congrArg Int32.toInt (z60 a14 m_a14 k_a14 0)
          have w166 : (u59.2.2.1 a14 1).toInt = (u.2.2.1 a14 1).toInt := congrArg Int32.toInt (z60 a14 m_a14 k_a14 1)
          have w167 : (u59.2.2.1 a14 2).toInt = (u.2.2.1 a14 2).toInt := congrArg Int32.toInt (z60 a14 m_a14 k_a14 2)
          have w168 : (u59.2.2.1 a14 3).toInt = (u.2.2.1 a14 3).toInt := congrArg Int32.toInt (z60 a14 m_a14 k_a14 3)
          have w169 : (u59.2.2.1 a14 4).toInt = (u.2.2.1 a14 4).toInt := congrArg Int32.toInt (z60 a14 m_a14 k_a14 4)
          have w170 : (u59.2.2.1 a14 5).toInt = (u.2.2.1 a14 5).toInt := congrArg Int32.toInt (z60 a14 m_a14 k_a14 5)
          refine lv_if_eq (tgt := 277) hx hb dX12_readLine_267 (by decide) (fun h => absurd h (by (try simp only [i_lt, i_le, i_eq, Int32.toInt_toInt64, Int32.reduceToInt, Int64.reduceToInt, true_and, and_true, false_and, and_false, false_or, or_false, true_or, or_true, not_true_eq_false, not_false_eq_true, ne_eq, forall_const, true_implies, false_implies, implies_true] at ex5 tx52 g53 c54 eb57 fb57 er58 har58 pzr58 w165 w166 w167 w168 w169 w170 ⊢) <;> omega)) (fun _ => ?_)
          refine lv_aload_n hx hb dX12_readLine_270 rfl (lv_at hl 1 rfl) ?_
          have k_h0 : u59.2.1 h0 = 12 := (hp h0 m0_h0).2.1.trans k0_h0
          have m_h0 : h0 ∈ u59.1 := (hp h0 m0_h0).1
          have k_a14 : u59.2.1 a14 = 51 := (hp a14 m0_a14).2.1.trans k0_a14
          have m_a14 : a14 ∈ u59.1 := (hp a14 m0_a14).1
          refine xvV (C := RX12) (As := []) (rest := []) ⟨hx, hb, hml, hown, hts⟩ (fun sz => t_X12_readPot l D k tt u59 hu h0 m_h0 k_h0 (by (simp only [ar_eq (((hp h0 m0_h0).2.2.2.2.2.1 k0_h0 14).trans q0_14)]); (try simp only [i_lt, i_le, i_eq, Int32.toInt_toInt64, Int32.reduceToInt, Int64.reduceToInt, true_and, and_true, false_and, and_false, false_or, or_false, true_or, or_true, not_true_eq_false, not_false_eq_true, ne_eq, forall_const, true_implies, false_implies, implies_true] at ex5 tx52 g53 c54 eb57 fb57 er58 har58 pzr58 w165 w166 w167 w168 w169 w170 ⊢) <;> omega) sz) (cwV 0 hts gX12_readLine_X12_readPot rfl rfl rfl (by decide +kernel) ⟨Nat.le_of_ble_eq_true rfl, Nat.le_of_ble_eq_true rfl⟩) hP hK hD hN hE hS hA (precv hK hP m_h0 (cF12 k_h0) rfl) rfl hl.1 rfl (Nat.le_of_ble_eq_true rfl) dX12_readLine_271 ⟨Nat.le_of_ble_eq_true rfl, Nat.le_of_ble_eq_true rfl⟩ (fun u172 H locs hqu172 hP hD hS => ?_)
          obtain ⟨hu, hxu172, z173, hr171⟩ := hqu172
          have hp := PX.trans hp hxu172
          have w174 : (u172.2.2.1 a14 0).toInt = (u59.2.2.1 a14 0).toInt := congrArg Int32.toInt (z173 a14 m_a14 k_a14)
          refine lv_goto (tgt := 408) hx hb dX12_readLine_274 (by decide) ?_
          exact B408 _ _ _ ls hu hp hP hD hS (by (try simp only [i_lt, i_le, i_eq, Int32.toInt_toInt64, Int32.reduceToInt, Int64.reduceToInt, true_and, and_true, false_and, and_false, false_or, or_false, true_or, or_true, not_true_eq_false, not_false_eq_true, ne_eq, forall_const, true_implies, false_implies, implies_true] at ex5 tx52 g53 c54 eb57 fb57 er58 har58 pzr58 w165 w166 w167 w168 w169 w170 w174 ⊢) <;> omega) (by (try simp only [i_lt, i_le, i_eq, Int32.toInt_toInt64, Int32.reduceToInt, Int64.reduceToInt, true_and, and_true, false_and, and_false, false_or, or_false, true_or, or_true, not_true_eq_false, not_false_eq_true, ne_eq, forall_const, true_implies, false_implies, implies_true] at ex5 tx52 g53 c54 eb57 fb57 er58 har58 pzr58 w165 w166 w167 w168 w169 w170 w174 ⊢) <;> omega) (lv_sub hl [1] rfl)
      · have eb175 : r55.toInt = 0 := by rcases hr55 with ⟨q, -⟩ | ⟨q, -⟩; exact q; (exact absurd (c56) (fun w => by rw [w] at q; exact absurd q (by decide)))
        have fb175 : (u.2.2.1 h0 12).toInt ≠ 0 := by rcases hr55 with ⟨q, r⟩ | ⟨q, r⟩; exact r; exact absurd q (by omega)
        clear hr55
        exact W.vret hx hb hr (fun t ht hW => ⟨⟨u, rfl, ⟨hu, hp, (show ((u.2.2.1 h0 12).toInt = 0 → ((u.2.2.1 (ar u0 h0 14) 0).toInt = (u0.2.2.1 (ar u0 h0 14) 0).toInt + 1 ∧ (u0.2.2.1 (ar u0 h0 14) 0).toInt ≤ 59)) ∧ (u0.2.2.1 (ar u0 h0 14) 0).toInt ≤ (u.2.2.1 (ar u0 h0 14) 0).toInt from by (simp only [ar_eq q0_14]); (try simp only [i_lt, i_le, i_eq, Int32.toInt_toInt64, Int32.reduceToInt, Int64.reduceToInt, true_and, and_true, false_and, and_false, false_or, or_false, true_or, or_true, not_true_eq_false, not_false_eq_true, ne_eq, forall_const, true_implies, false_implies, implies_true] at ex5 tx52 g53 c54 eb175 fb175 ⊢) <;> omega)⟩, by rw [ht]; exact hP, hD⟩, hS.F ht⟩) hS.2.2 dX12_readLine_260
    · exact B248 _ _ _ ls hu hp hP hD hS (by (try simp only [i_lt, i_le, i_eq, Int32.toInt_toInt64, Int32.reduceToInt, Int64.reduceToInt, true_and, and_true, false_and, and_false, false_or, or_false, true_or, or_true, not_true_eq_false, not_false_eq_true, ne_eq, forall_const, true_implies, false_implies, implies_true] at ex5 tx52 g53 c54 ⊢) <;> omega) (lv_sub hl [1] rfl)
  have B206 : ∀ (u : PSt) (H : Heap) (locs : List Loc) (ls : Array Slot), WT u → PX u0 u → va_P D vwCl (PW k u) H → va_D A (PW k u) → va_S A s.heap H locs → (isP u h0 44 → (u.2.2.1 a14 1).toInt ≤ 7) → (isP u h0 45 → (u.2.2.1 a14 2).toInt ≤ 11) → (isP u h0 70 → (u.2.2.1 a14 3).toInt ≤ 11) → (isP u h0 71 → (u.2.2.1 a14 4).toInt ≤ 11) → ((u.2.2.1 a14 0).toInt = (u0.2.2.1 a14 0).toInt) → lv_has ls 3 [(0, .ref h0)] → W p l e (headSpec wsX12_readLine ({ frames := 9, cells := 0, slots := 0, locals := 197 })).room s m ([.ref h0] : List Value).toArray below meth c H locs 0 0 (MQ below (va_Qv (fun v => WT v ∧ PX u0 v ∧ (((v.2.2.1 h0 12).toInt = 0 → ((v.2.2.1 (ar u0 h0 14) 0).toInt = (u0.2.2.1 (ar u0 h0 14) 0).toInt + 1 ∧ (u0.2.2.1 (ar u0 h0 14) 0).toInt ≤ 59)) ∧ (u0.2.2.1 (ar u0 h0 14) 0).toInt ≤ (v.2.2.1 (ar u0 h0 14) 0).toInt)) (WB D A (PW k)) A) ([.ref h0] : List Value).toArray s 0 0 A) (F0 m 206 ls []) := by
    intro u H locs ls  hu hp hP hD hS ex0 ex1 ex2 ex3 ex4 hl
    refine lv_aload_n hx hb dX12_readLine_206 rfl (lv_at hl 0 rfl) ?_
    refine va_ldcSw (own := RX12) (tx := "change") (q := tt.1 73) hx hb hown (hE.2.1 (RX12, 267, "change", 73) (by decide +kernel)) dX12_readLine_207 ?_
    have k_h0 : u.2.1 h0 = 12 := (hp h0 m0_h0).2.1.trans k0_h0
    have m_h0 : h0 ∈ u.1 := (hp h0 m0_h0).1
    have k_a14 : u.2.1 a14 = 51 := (hp a14 m0_a14).2.1.trans k0_a14
    have m_a14 : a14 ∈ u.1 := (hp a14 m0_a14).1
    refine xiV (C := RX12) (As := [.ref (tt.1 73)]) (rest := []) ⟨hx, hb, hml, hown, hts⟩ (fun sz => t_X12_is l D k tt u hu h0 m_h0 k_h0 73 (by decide) sz) (cwV 1 hts gX12_readLine_X12_is rfl rfl rfl (by decide +kernel) ⟨Nat.le_of_ble_eq_true rfl, Nat.le_of_ble_eq_true rfl⟩) hP hK hD hN hE hS hA (precv hK hP m_h0 (cF12 k_h0) rfl) rfl hl.1 rfl (Nat.le_of_ble_eq_true rfl) dX12_readLine_210 ⟨Nat.le_of_ble_eq_true rfl, Nat.le_of_ble_eq_true rfl⟩ (fun r176 u177 H locs hqu177 hP hD hS => ?_)
    obtain ⟨hu, hxu177, hr176⟩ := hqu177
    have sameu177 : u = u177 := hr176.1.symm
    subst sameu177
    have hr176 := hr176.2
    rcases hr176 with ⟨er176, hnr176⟩ | ⟨er176, hir176, har176⟩
    · refine lv_if_eq (tgt := 231) hx hb dX12_readLine_213 (by decide) (fun _ => ?_) (fun h => absurd (by (try simp only [i_lt, i_le, i_eq, Int32.toInt_toInt64, Int32.reduceToInt, Int64.reduceToInt, true_and, and_true, false_and, and_false, false_or, or_false, true_or, or_true, not_true_eq_false, not_false_eq_true, ne_eq, forall_const, true_implies, false_implies, implies_true] at ex4 er176 ⊢) <;> omega) h)
      exact B231 _ _ _ ls hu hp hP hD hS (by first | exact fun q => absurd q hnr176 | exact ex0 | exact ex1 | exact ex2 | exact ex3 | (intro q; (try simp only [i_lt, i_le, i_eq, Int32.toInt_toInt64, Int32.reduceToInt, Int64.reduceToInt, true_and, and_true, false_and, and_false, false_or, or_false, true_or, or_true, not_true_eq_false, not_false_eq_true, ne_eq, forall_const, true_implies, false_implies, implies_true] at ex4 er176 ⊢) <;> omega)) (by first | exact fun q => absurd q hnr176 | exact ex0 | exact ex1 | exact ex2 | exact ex3 | (intro q; (try simp only [i_lt, i_le, i_eq, Int32.toInt_toInt64, Int32.reduceToInt, Int64.reduceToInt, true_and, and_true, false_and, and_false, false_or, or_false, true_or, or_true, not_true_eq_false, not_false_eq_true, ne_eq, forall_const, true_implies, false_implies, implies_true] at ex4 er176 ⊢) <;> omega)) (by first | exact fun q => absurd q hnr176 | exact ex0 | exact ex1 | exact ex2 | exact ex3 | (intro q; (try simp only [i_lt, i_le, i_eq, Int32.toInt_toInt64, Int32.reduceToInt, Int64.reduceToInt, true_and, and_true, false_and, and_false, false_or, or_false, true_or, or_true, not_true_eq_false, not_false_eq_true, ne_eq, forall_const, true_implies, false_implies, implies_true] at ex4 er176 ⊢) <;> omega)) (by first | exact fun q => absurd q hnr176 | exact ex0 | exact ex1 | exact ex2 | exact ex3 | (intro q; (try simp only [i_lt, i_le, i_eq, Int32.toInt_toInt64, Int32.reduceToInt, Int64.reduceToInt, true_and, and_true, false_and, and_false, false_or, or_false, true_or, or_true, not_true_eq_false, not_false_eq_true, ne_eq, forall_const, true_implies, false_implies, implies_true] at ex4 er176 ⊢) <;> omega)) (by first | exact fun q => absurd q hnr176 | exact ex0 | exact ex1 | exact ex2 | exact ex3 | (intro q; (try simp only [i_lt, i_le, i_eq, Int32.toInt_toInt64, Int32.reduceToInt, Int64.reduceToInt, true_and, and_true, false_and, and_false, false_or, or_false, true_or, or_true, not_true_eq_false, not_false_eq_true, ne_eq, forall_const, true_implies, false_implies, implies_true] at ex4 er176 ⊢) <;> omega)) (by (try simp only [i_lt, i_le, i_eq, Int32.toInt_toInt64, Int32.reduceToInt, Int64.reduceToInt, true_and, and_true, false_and, and_false, false_or, or_false, true_or, or_true, not_true_eq_false, not_false_eq_true, ne_eq, forall_const, true_implies, false_implies, implies_true] at ex4 er176 ⊢) <;> omega) (lv_sub hl [0] rfl)
    · refine lv_if_eq (tgt := 231) hx hb dX12_readLine_213 (by decide) (fun h => absurd h (by (try simp only [i_lt, i_le, i_eq, Int32.toInt_toInt64, Int32.reduceToInt, Int64.reduceToInt, true_and, and_true, false_and, and_false, false_or, or_false, true_or, or_true, not_true_eq_false, not_false_eq_true, ne_eq, forall_const, true_implies, false_implies, implies_true] at ex4 er176 har176 ⊢) <;> omega)) (fun _ => ?_)
      refine lv_aload_n hx hb dX12_readLine_216 rfl (lv_at hl 0 rfl) ?_
      refine pget (ci := 12) (v := va_rf (u.2.2.2.2 h0 14)) (C := RX12) (T := TX12) (N := 34) hx hb hts i_X12 hown hK hP m_h0 (cF12 k_h0) rfl 14 (by decide) (hts (.fieldLink RX12 34 "BellowsRowModel" "fresh" "[I") (by decide +kernel)) (fun _ h9 => h9) rfl dX12_readLine_217 ?_
      refine W.eq (g2 := F0 m 220 ls [.ref a14]) (by rw [(((hp h0 m0_h0).2.2.2.2.2.1 k0_h0 14).trans q0_14)]; rfl) ?_
      refine lv_iconst (v := 5) hx hb dX12_readLine_220 (by decide) ?_
      refine palI hx hb hK hP m_a14 (cF51 k_a14) 1 rfl (vp_in_iff.mpr (by decide)) dX12_readLine_221 ?_
      refine lv_topi (fun x178 ex178 => ?_)
      have tx178 : x178.toInt = (u.2.2.1 a14 5).toInt := congrArg Int32.toInt ex178
      have g179 : 0 ≤ x178.toInt ∧ x178.toInt ≤ 20 := by have g : okI (u.2.1 a14) (5) (u.2.2.1 a14 (5)) := (hu a14 m_a14).2.2.2 (5); rw [k_a14, ← (show x178 = u.2.2.1 a14 (5) from ex178)] at g; have g : okW (5) x178 := g; unfold okW at g; (try simp only [i_lt, i_le, i_eq, Int32.toInt_toInt64, Int32.reduceToInt, Int64.reduceToInt, true_and, and_true, false_and, and_false, false_or, or_false, true_or, or_true, not_true_eq_false, not_false_eq_true, ne_eq, forall_const, true_implies, false_implies, implies_true] at ex4 er176 har176 tx178 g ⊢) <;> omega
      refine lv_bipush (v := 20) hx hb dX12_readLine_222 (by decide) ?_
      refine lv_icmp_ne (tgt := 231) hx hb dX12_readLine_224 (by decide) (fun c180 => ?_) (fun c180 => ?_)
      · exact B231 _ _ _ ls hu hp hP hD hS (by first | exact ex0 | exact ex1 | exact ex2 | exact ex3 | (intro q; (try simp only [i_lt, i_le, i_eq, Int32.toInt_toInt64, Int32.reduceToInt, Int64.reduceToInt, true_and, and_true, false_and, and_false, false_or, or_false, true_or, or_true, not_true_eq_false, not_false_eq_true, ne_eq, forall_const, true_implies, false_implies, implies_true] at ex4 er176 har176 tx178 g179 c180 ⊢) <;> omega)) (by first | exact ex0 | exact ex1 | exact ex2 | exact ex3 | (intro q; (try simp only [i_lt, i_le, i_eq, Int32.toInt_toInt64, Int32.reduceToInt, Int64.reduceToInt, true_and, and_true, false_and, and_false, false_or, or_false, true_or, or_true, not_true_eq_false, not_false_eq_true, ne_eq, forall_const, true_implies, false_implies, implies_true] at ex4 er176 har176 tx178 g179 c180 ⊢) <;> omega)) (by first | exact ex0 | exact ex1 | exact ex2 | exact ex3 | (intro q; (try simp only [i_lt, i_le, i_eq, Int32.toInt_toInt64, Int32.reduceToInt, Int64.reduceToInt, true_and, and_true, false_and, and_false, false_or, or_false, true_or, or_true, not_true_eq_false, not_false_eq_true, ne_eq, forall_const, true_implies, false_implies, implies_true] at ex4 er176 har176 tx178 g179 c180 ⊢) <;> omega)) (by first | exact ex0 | exact ex1 | exact ex2 | exact ex3 | (intro q; (try simp only [i_lt, i_le, i_eq, Int32.toInt_toInt64, Int32.reduceToInt, Int64.reduceToInt, true_and, and_true, false_and, and_false, false_or, or_false, true_or, or_true, not_true_eq_false, not_false_eq_true, ne_eq, forall_const, true_implies, false_implies, implies_true] at ex4 er176 har176 tx178 g179 c180 ⊢) <;> omega)) (by first | exact ex0 | exact ex1 | exact ex2 | exact ex3 | (intro q; (try simp only [i_lt, i_le, i_eq, Int32.toInt_toInt64, Int32.reduceToInt, Int64.reduceToInt, true_and, and_true, false_and, and_false, false_or, or_false, true_or, or_true, not_true_eq_false, not_false_eq_true, ne_eq, forall_const, true_implies, false_implies, implies_true] at ex4 er176 har176 tx178 g179 c180 ⊢) <;> omega)) (by (try simp only [i_lt, i_le, i_eq, Int32.toInt_toInt64, Int32.reduceToInt, Int64.reduceToInt, true_and, and_true, false_and, and_false, false_or, or_false, true_or, or_true, not_true_eq_false, not_false_eq_true, ne_eq, forall_const, true_implies, false_implies, implies_true] at ex4 er176 har176 tx178 g179 c180 ⊢) <;> omega) (lv_sub hl [0] rfl)
      · exact B227 _ _ _ ls hu hp hP hD hS (by (try simp only [i_lt, i_le, i_eq, Int32.toInt_toInt64, Int32.reduceToInt, Int64.reduceToInt, true_and, and_true, false_and, and_false, false_or, or_false, true_or, or_true, not_true_eq_false, not_false_eq_true, ne_eq, forall_const, true_implies, false_implies, implies_true] at ex4 er176 har176 tx178 g179 c180 ⊢) <;> omega) (lv_sub hl [0] rfl)
  have B185 : ∀ (u : PSt) (H : Heap) (locs : List Loc) (ls : Array Slot), WT u → PX u0 u → va_P D vwCl (PW k u) H → va_D A (PW k u) → va_S A s.heap H locs → (isP u h0 44 → (u.2.2.1 a14 1).toInt ≤ 7) → (isP u h0 45 → (u.2.2.1 a14 2).toInt ≤ 11) → (isP u h0 70 → (u.2.2.1 a14 3).toInt ≤ 11) → ((u.2.2.1 a14 0).toInt = (u0.2.2.1 a14 0).toInt) → lv_has ls 3 [(0, .ref h0)] → W p l e (headSpec wsX12_readLine ({ frames := 9, cells := 0, slots := 0, locals := 197 })).room s m ([.ref h0] : List Value).toArray below meth c H locs 0 0 (MQ below (va_Qv (fun v => WT v ∧ PX u0 v ∧ (((v.2.2.1 h0 12).toInt = 0 → ((v.2.2.1 (ar u0 h0 14) 0).toInt = (u0.2.2.1 (ar u0 h0 14) 0).toInt + 1 ∧ (u0.2.2.1 (ar u0 h0 14) 0).toInt ≤ 59)) ∧ (u0.2.2.1 (ar u0 h0 14) 0).toInt ≤ (v.2.2.1 (ar u0 h0 14) 0).toInt)) (WB D A (PW k)) A) ([.ref h0] : List Value).toArray s 0 0 A) (F0 m 185 ls []) := by
    intro u H locs ls  hu hp hP hD hS ex0 ex1 ex2 ex3 hl
    refine lv_aload_n hx hb dX12_readLine_185 rfl (lv_at hl 0 rfl) ?_
    refine va_ldcSw (own := RX12) (tx := "person") (q := tt.1 71) hx hb hown (hE.2.1 (RX12, 263, "person", 71) (by decide +kernel)) dX12_readLine_186 ?_
    have k_h0 : u.2.1 h0 = 12 := (hp h0 m0_h0).2.1.trans k0_h0
    have m_h0 : h0 ∈ u.1 := (hp h0 m0_h0).1
    have k_a14 : u.2.1 a14 = 51 := (hp a14 m0_a14).2.1.trans k0_a14
    have m_a14 : a14 ∈ u.1 := (hp a14 m0_a14).1
    refine xiV (C := RX12) (As := [.ref (tt.1 71)]) (rest := []) ⟨hx, hb, hml, hown, hts⟩ (fun sz => t_X12_is l D k tt u hu h0 m_h0 k_h0 71 (by decide) sz) (cwV 1 hts gX12_readLine_X12_is rfl rfl rfl (by decide +kernel) ⟨Nat.le_of_ble_eq_true rfl, Nat.le_of_ble_eq_true rfl⟩) hP hK hD hN hE hS hA (precv hK hP m_h0 (cF12 k_h0) rfl) rfl hl.1 rfl (Nat.le_of_ble_eq_true rfl) dX12_readLine_189 ⟨Nat.le_of_ble_eq_true rfl, Nat.le_of_ble_eq_true rfl⟩ (fun r181 u182 H locs hqu182 hP hD hS => ?_)
    obtain ⟨hu, hxu182, hr181⟩ := hqu182
    have sameu182 : u = u182 := hr181.1.symm
    subst sameu182
    have hr181 := hr181.2
    rcases hr181 with ⟨er181, hnr181⟩ | ⟨er181, hir181, har181⟩
    · refine lv_if_eq (tgt := 206) hx hb dX12_readLine_192 (by decide) (fun _ => ?_) (fun h => absurd (by (try simp only [i_lt, i_le, i_eq, Int32.toInt_toInt64, Int32.reduceToInt, Int64.reduceToInt, true_and, and_true, false_and, and_false, false_or, or_false, true_or, or_true, not_true_eq_false, not_false_eq_true, ne_eq, forall_const, true_implies, false_implies, implies_true] at ex3 er181 ⊢) <;> omega) h)
      exact B206 _ _ _ ls hu hp hP hD hS (by first | exact fun q => absurd q hnr181 | exact ex0 | exact ex1 | exact ex2 | (intro q; (try simp only [i_lt, i_le, i_eq, Int32.toInt_toInt64, Int32.reduceToInt, Int64.reduceToInt, true_and, and_true, false_and, and_false, false_or, or_false, true_or, or_true, not_true_eq_false, not_false_eq_true, ne_eq, forall_const, true_implies, false_implies, implies_true] at ex3 er181 ⊢) <;> omega)) (by first | exact fun q => absurd q hnr181 | exact ex0 | exact ex1 | exact ex2 | (intro q; (try simp only [i_lt, i_le, i_eq, Int32.toInt_toInt64, Int32.reduceToInt, Int64.reduceToInt, true_and, and_true, false_and, and_false, false_or, or_false, true_or, or_true, not_true_eq_false, not_false_eq_true, ne_eq, forall_const, true_implies, false_implies, implies_true] at ex3 er181 ⊢) <;> omega)) (by first | exact fun q => absurd q hnr181 | exact ex0 | exact ex1 | exact ex2 | (intro q; (try simp only [i_lt, i_le, i_eq, Int32.toInt_toInt64, Int32.reduceToInt, Int64.reduceToInt, true_and, and_true, false_and, and_false, false_or, or_false, true_or, or_true, not_true_eq_false, not_false_eq_true, ne_eq, forall_const, true_implies, false_implies, implies_true] at ex3 er181 ⊢) <;> omega)) (by first | exact fun q => absurd q hnr181 | exact ex0 | exact ex1 | exact ex2 | (intro q; (try simp only [i_lt, i_le, i_eq, Int32.toInt_toInt64, Int32.reduceToInt, Int64.reduceToInt, true_and, and_true, false_and, and_false, false_or, or_false, true_or, or_true, not_true_eq_false, not_false_eq_true, ne_eq, forall_const, true_implies, false_implies, implies_true] at ex3 er181 ⊢) <;> omega)) (by (try simp only [i_lt, i_le, i_eq, Int32.toInt_toInt64, Int32.reduceToInt, Int64.reduceToInt, true_and, and_true, false_and, and_false, false_or, or_false, true_or, or_true, not_true_eq_false, not_false_eq_true, ne_eq, forall_const, true_implies, false_implies, implies_true] at ex3 er181 ⊢) <;> omega) (lv_sub hl [0] rfl)
    · refine lv_if_eq (tgt := 206) hx hb dX12_readLine_192 (by decide) (fun h => absurd h (by (try simp only [i_lt, i_le, i_eq, Int32.toInt_toInt64, Int32.reduceToInt, Int64.reduceToInt, true_and, and_true, false_and, and_false, false_or, or_false, true_or, or_true, not_true_eq_false, not_false_eq_true, ne_eq, forall_const, true_implies, false_implies, implies_true] at ex3 er181 har181 ⊢) <;> omega)) (fun _ => ?_)
      refine lv_aload_n hx hb dX12_readLine_195 rfl (lv_at hl 0 rfl) ?_
      refine pget (ci := 12) (v := va_rf (u.2.2.2.2 h0 14)) (C := RX12) (T := TX12) (N := 34) hx hb hts i_X12 hown hK hP m_h0 (cF12 k_h0) rfl 14 (by decide) (hts (.fieldLink RX12 34 "BellowsRowModel" "fresh" "[I") (by decide +kernel)) (fun _ h9 => h9) rfl dX12_readLine_196 ?_
      refine W.eq (g2 := F0 m 199 ls [.ref a14]) (by rw [(((hp h0 m0_h0).2.2.2.2.2.1 k0_h0 14).trans q0_14)]; rfl) ?_
      refine lv_iconst (v := 4) hx hb dX12_readLine_199 (by decide) ?_
      refine palI hx hb hK hP m_a14 (cF51 k_a14) 1 rfl (vp_in_iff.mpr (by decide)) dX12_readLine_200 ?_
      refine lv_topi (fun x183 ex183 => ?_)
      have tx183 : x183.toInt = (u.2.2.1 a14 4).toInt := congrArg Int32.toInt ex183
      have g184 : 0 ≤ x183.toInt ∧ x183.toInt ≤ 12 := by have g : okI (u.2.1 a14) (4) (u.2.2.1 a14 (4)) := (hu a14 m_a14).2.2.2 (4); rw [k_a14, ← (show x183 = u.2.2.1 a14 (4) from ex183)] at g; have g : okW (4) x183 := g; unfold okW at g; (try simp only [i_lt, i_le, i_eq, Int32.toInt_toInt64, Int32.reduceToInt, Int64.reduceToInt, true_and, and_true, false_and, and_false, false_or, or_false, true_or, or_true, not_true_eq_false, not_false_eq_true, ne_eq, forall_const, true_implies, false_implies, implies_true] at ex3 er181 har181 tx183 g ⊢) <;> omega
      refine lv_bipush (v := 12) hx hb dX12_readLine_201 (by decide) ?_
      refine lv_icmp_eq (tgt := 227) hx hb dX12_readLine_203 (by decide) (fun c185 => ?_) (fun c185 => ?_)
      · exact B227 _ _ _ ls hu hp hP hD hS (by (try simp only [i_lt, i_le, i_eq, Int32.toInt_toInt64, Int32.reduceToInt, Int64.reduceToInt, true_and, and_true, false_and, and_false, false_or, or_false, true_or, or_true, not_true_eq_false, not_false_eq_true, ne_eq, forall_const, true_implies, false_implies, implies_true] at ex3 er181 har181 tx183 g184 c185 ⊢) <;> omega) (lv_sub hl [0] rfl)
      · exact B206 _ _ _ ls hu hp hP hD hS (by first | exact ex0 | exact ex1 | exact ex2 | (intro q; (try simp only [i_lt, i_le, i_eq, Int32.toInt_toInt64, Int32.reduceToInt, Int64.reduceToInt, true_and, and_true, false_and, and_false, false_or, or_false, true_or, or_true, not_true_eq_false, not_false_eq_true, ne_eq, forall_const, true_implies, false_implies, implies_true] at ex3 er181 har181 tx183 g184 c185 ⊢) <;> omega)) (by first | exact ex0 | exact ex1 | exact ex2 | (intro q; (try simp only [i_lt, i_le, i_eq, Int32.toInt_toInt64, Int32.reduceToInt, Int64.reduceToInt, true_and, and_true, false_and, and_false, false_or, or_false, true_or, or_true, not_true_eq_false, not_false_eq_true, ne_eq, forall_const, true_implies, false_implies, implies_true] at ex3 er181 har181 tx183 g184 c185 ⊢) <;> omega)) (by first | exact ex0 | exact ex1 | exact ex2 | (intro q; (try simp only [i_lt, i_le, i_eq, Int32.toInt_toInt64, Int32.reduceToInt, Int64.reduceToInt, true_and, and_true, false_and, and_false, false_or, or_false, true_or, or_true, not_true_eq_false, not_false_eq_true, ne_eq, forall_const, true_implies, false_implies, implies_true] at ex3 er181 har181 tx183 g184 c185 ⊢) <;> omega)) (by first | exact ex0 | exact ex1 | exact ex2 | (intro q; (try simp only [i_lt, i_le, i_eq, Int32.toInt_toInt64, Int32.reduceToInt, Int64.reduceToInt, true_and, and_true, false_and, and_false, false_or, or_false, true_or, or_true, not_true_eq_false, not_false_eq_true, ne_eq, forall_const, true_implies, false_implies, implies_true] at ex3 er181 har181 tx183 g184 c185 ⊢) <;> omega)) (by (try simp only [i_lt, i_le, i_eq, Int32.toInt_toInt64, Int32.reduceToInt, Int64.reduceToInt, true_and, and_true, false_and, and_false, false_or, or_false, true_or, or_true, not_true_eq_false, not_false_eq_true, ne_eq, forall_const, true_implies, false_implies, implies_true] at ex3 er181 har181 tx183 g184 c185 ⊢) <;> omega) (lv_sub hl [0] rfl)
  have B164 : ∀ (u : PSt) (H : Heap) (locs : List Loc) (ls : Array Slot), WT u → PX u0 u → va_P D vwCl (PW k u) H → va_D A (PW k u) → va_S A s.heap H locs → (isP u h0 44 → (u.2.2.1 a14 1).toInt ≤ 7) → (isP u h0 45 → (u.2.2.1 a14 2).toInt ≤ 11) → ((u.2.2.1 a14 0).toInt = (u0.2.2.1 a14 0).toInt) → lv_has ls 3 [(0, .ref h0)] → W p l e (headSpec wsX12_readLine ({ frames := 9, cells := 0, slots := 0, locals := 197 })).room s m ([.ref h0] : List Value).toArray below meth c H locs 0 0 (MQ below (va_Qv (fun v => WT v ∧ PX u0 v ∧ (((v.2.2.1 h0 12).toInt = 0 → ((v.2.2.1 (ar u0 h0 14) 0).toInt = (u0.2.2.1 (ar u0 h0 14) 0).toInt + 1 ∧ (u0.2.2.1 (ar u0 h0 14) 0).toInt ≤ 59)) ∧ (u0.2.2.1 (ar u0 h0 14) 0).toInt ≤ (v.2.2.1 (ar u0 h0 14) 0).toInt)) (WB D A (PW k)) A) ([.ref h0] : List Value).toArray s 0 0 A) (F0 m 164 ls []) := by
    intro u H locs ls  hu hp hP hD hS ex0 ex1 ex2 hl
    refine lv_aload_n hx hb dX12_readLine_164 rfl (lv_at hl 0 rfl) ?_
    refine va_ldcSw (own := RX12) (tx := "room") (q := tt.1 70) hx hb hown (hE.2.1 (RX12, 261, "room", 70) (by decide +kernel)) dX12_readLine_165 ?_
    have k_h0 : u.2.1 h0 = 12 := (hp h0 m0_h0).2.1.trans k0_h0
    have m_h0 : h0 ∈ u.1 := (hp h0 m0_h0).1
    have k_a14 : u.2.1 a14 = 51 := (hp a14 m0_a14).2.1.trans k0_a14
    have m_a14 : a14 ∈ u.1 := (hp a14 m0_a14).1
    refine xiV (C := RX12) (As := [.ref (tt.1 70)]) (rest := []) ⟨hx, hb, hml, hown, hts⟩ (fun sz => t_X12_is l D k tt u hu h0 m_h0 k_h0 70 (by decide) sz) (cwV 1 hts gX12_readLine_X12_is rfl rfl rfl (by decide +kernel) ⟨Nat.le_of_ble_eq_true rfl, Nat.le_of_ble_eq_true rfl⟩) hP hK hD hN hE hS hA (precv hK hP m_h0 (cF12 k_h0) rfl) rfl hl.1 rfl (Nat.le_of_ble_eq_true rfl) dX12_readLine_168 ⟨Nat.le_of_ble_eq_true rfl, Nat.le_of_ble_eq_true rfl⟩ (fun r186 u187 H locs hqu187 hP hD hS => ?_)
    obtain ⟨hu, hxu187, hr186⟩ := hqu187
    have sameu187 : u = u187 := hr186.1.symm
    subst sameu187
    have hr186 := hr186.2
    rcases hr186 with ⟨er186, hnr186⟩ | ⟨er186, hir186, har186⟩
    · refine lv_if_eq (tgt := 185) hx hb dX12_readLine_171 (by decide) (fun _ => ?_) (fun h => absurd (by (try simp only [i_lt, i_le, i_eq, Int32.toInt_toInt64, Int32.reduceToInt, Int64.reduceToInt, true_and, and_true, false_and, and_false, false_or, or_false, true_or, or_true, not_true_eq_false, not_false_eq_true, ne_eq, forall_const, true_implies, false_implies, implies_true] at ex2 er186 ⊢) <;> omega) h)
      exact B185 _ _ _ ls hu hp hP hD hS (by first | exact fun q => absurd q hnr186 | exact ex0 | exact ex1 | (intro q; (try simp only [i_lt, i_le, i_eq, Int32.toInt_toInt64, Int32.reduceToInt, Int64.reduceToInt, true_and, and_true, false_and, and_false, false_or, or_false, true_or, or_true, not_true_eq_false, not_false_eq_true, ne_eq, forall_const, true_implies, false_implies, implies_true] at ex2 er186 ⊢) <;> omega)) (by first | exact fun q => absurd q hnr186 | exact ex0 | exact ex1 | (intro q; (try simp only [i_lt, i_le, i_eq, Int32.toInt_toInt64, Int32.reduceToInt, Int64.reduceToInt, true_and, and_true, false_and, and_false, false_or, or_false, true_or, or_true, not_true_eq_false, not_false_eq_true, ne_eq, forall_const, true_implies, false_implies, implies_true] at ex2 er186 ⊢) <;> omega)) (by first | exact fun q => absurd q hnr186 | exact ex0 | exact ex1 | (intro q; (try simp only [i_lt, i_le, i_eq, Int32.toInt_toInt64, Int32.reduceToInt, Int64.reduceToInt, true_and, and_true, false_and, and_false, false_or, or_false, true_or, or_true, not_true_eq_false, not_false_eq_true, ne_eq, forall_const, true_implies, false_implies, implies_true] at ex2 er186 ⊢) <;> omega)) (by (try simp only [i_lt, i_le, i_eq, Int32.toInt_toInt64, Int32.reduceToInt, Int64.reduceToInt, true_and, and_true, false_and, and_false, false_or, or_false, true_or, or_true, not_true_eq_false, not_false_eq_true, ne_eq, forall_const, true_implies, false_implies, implies_true] at ex2 er186 ⊢) <;> omega) (lv_sub hl [0] rfl)
    · refine lv_if_eq (tgt := 185) hx hb dX12_readLine_171 (by decide) (fun h => absurd h (by (try simp only [i_lt, i_le, i_eq, Int32.toInt_toInt64, Int32.reduceToInt, Int64.reduceToInt, true_and, and_true, false_and, and_false, false_or, or_false, true_or, or_true, not_true_eq_false, not_false_eq_true, ne_eq, forall_const, true_implies, false_implies, implies_true] at ex2 er186 har186 ⊢) <;> omega)) (fun _ => ?_)
      refine lv_aload_n hx hb dX12_readLine_174 rfl (lv_at hl 0 rfl) ?_
      refine pget (ci := 12) (v := va_rf (u.2.2.2.2 h0 14)) (C := RX12) (T := TX12) (N := 34) hx hb hts i_X12 hown hK hP m_h0 (cF12 k_h0) rfl 14 (by decide) (hts (.fieldLink RX12 34 "BellowsRowModel" "fresh" "[I") (by decide +kernel)) (fun _ h9 => h9) rfl dX12_readLine_175 ?_
      refine W.eq (g2 := F0 m 178 ls [.ref a14]) (by rw [(((hp h0 m0_h0).2.2.2.2.2.1 k0_h0 14).trans q0_14)]; rfl) ?_
      refine lv_iconst (v := 3) hx hb dX12_readLine_178 (by decide) ?_
      refine palI hx hb hK hP m_a14 (cF51 k_a14) 1 rfl (vp_in_iff.mpr (by decide)) dX12_readLine_179 ?_
      refine lv_topi (fun x188 ex188 => ?_)
      have tx188 : x188.toInt = (u.2.2.1 a14 3).toInt := congrArg Int32.toInt ex188
      have g189 : 0 ≤ x188.toInt ∧ x188.toInt ≤ 12 := by have g : okI (u.2.1 a14) (3) (u.2.2.1 a14 (3)) := (hu a14 m_a14).2.2.2 (3); rw [k_a14, ← (show x188 = u.2.2.1 a14 (3) from ex188)] at g; have g : okW (3) x188 := g; unfold okW at g; (try simp only [i_lt, i_le, i_eq, Int32.toInt_toInt64, Int32.reduceToInt, Int64.reduceToInt, true_and, and_true, false_and, and_false, false_or, or_false, true_or, or_true, not_true_eq_false, not_false_eq_true, ne_eq, forall_const, true_implies, false_implies, implies_true] at ex2 er186 har186 tx188 g ⊢) <;> omega
      refine lv_bipush (v := 12) hx hb dX12_readLine_180 (by decide) ?_
      refine lv_icmp_eq (tgt := 227) hx hb dX12_readLine_182 (by decide) (fun c190 => ?_) (fun c190 => ?_)
      · exact B227 _ _ _ ls hu hp hP hD hS (by (try simp only [i_lt, i_le, i_eq, Int32.toInt_toInt64, Int32.reduceToInt, Int64.reduceToInt, true_and, and_true, false_and, and_false, false_or, or_false, true_or, or_true, not_true_eq_false, not_false_eq_true, ne_eq, forall_const, true_implies, false_implies, implies_true] at ex2 er186 har186 tx188 g189 c190 ⊢) <;> omega) (lv_sub hl [0] rfl)
      · exact B185 _ _ _ ls hu hp hP hD hS (by first | exact ex0 | exact ex1 | (intro q; (try simp only [i_lt, i_le, i_eq, Int32.toInt_toInt64, Int32.reduceToInt, Int64.reduceToInt, true_and, and_true, false_and, and_false, false_or, or_false, true_or, or_true, not_true_eq_false, not_false_eq_true, ne_eq, forall_const, true_implies, false_implies, implies_true] at ex2 er186 har186 tx188 g189 c190 ⊢) <;> omega)) (by first | exact ex0 | exact ex1 | (intro q; (try simp only [i_lt, i_le, i_eq, Int32.toInt_toInt64, Int32.reduceToInt, Int64.reduceToInt, true_and, and_true, false_and, and_false, false_or, or_false, true_or, or_true, not_true_eq_false, not_false_eq_true, ne_eq, forall_const, true_implies, false_implies, implies_true] at ex2 er186 har186 tx188 g189 c190 ⊢) <;> omega)) (by first | exact ex0 | exact ex1 | (intro q; (try simp only [i_lt, i_le, i_eq, Int32.toInt_toInt64, Int32.reduceToInt, Int64.reduceToInt, true_and, and_true, false_and, and_false, false_or, or_false, true_or, or_true, not_true_eq_false, not_false_eq_true, ne_eq, forall_const, true_implies, false_implies, implies_true] at ex2 er186 har186 tx188 g189 c190 ⊢) <;> omega)) (by (try simp only [i_lt, i_le, i_eq, Int32.toInt_toInt64, Int32.reduceToInt, Int64.reduceToInt, true_and, and_true, false_and, and_false, false_or, or_false, true_or, or_true, not_true_eq_false, not_false_eq_true, ne_eq, forall_const, true_implies, false_implies, implies_true] at ex2 er186 har186 tx188 g189 c190 ⊢) <;> omega) (lv_sub hl [0] rfl)
  have B144 : ∀ (u : PSt) (H : Heap) (locs : List Loc) (ls : Array Slot), WT u → PX u0 u → va_P D vwCl (PW k u) H → va_D A (PW k u) → va_S A s.heap H locs → (isP u h0 44 → (u.2.2.1 a14 1).toInt ≤ 7) → ((u.2.2.1 a14 0).toInt = (u0.2.2.1 a14 0).toInt) → lv_has ls 3 [(0, .ref h0)] → W p l e (headSpec wsX12_readLine ({ frames := 9, cells := 0, slots := 0, locals := 197 })).room s m ([.ref h0] : List Value).toArray below meth c H locs 0 0 (MQ below (va_Qv (fun v => WT v ∧ PX u0 v ∧ (((v.2.2.1 h0 12).toInt = 0 → ((v.2.2.1 (ar u0 h0 14) 0).toInt = (u0.2.2.1 (ar u0 h0 14) 0).toInt + 1 ∧ (u0.2.2.1 (ar u0 h0 14) 0).toInt ≤ 59)) ∧ (u0.2.2.1 (ar u0 h0 14) 0).toInt ≤ (v.2.2.1 (ar u0 h0 14) 0).toInt)) (WB D A (PW k)) A) ([.ref h0] : List Value).toArray s 0 0 A) (F0 m 144 ls []) := by
    intro u H locs ls  hu hp hP hD hS ex0 ex1 hl
    refine lv_aload_n hx hb dX12_readLine_144 rfl (lv_at hl 0 rfl) ?_
    refine va_ldcS (own := RX12) (tx := "pipe") (q := tt.1 45) hx hb hown (hE.2.1 (RX12, 173, "pipe", 45) (by decide +kernel)) dX12_readLine_145 ?_
    have k_h0 : u.2.1 h0 = 12 := (hp h0 m0_h0).2.1.trans k0_h0
    have m_h0 : h0 ∈ u.1 := (hp h0 m0_h0).1
    have k_a14 : u.2.1 a14 = 51 := (hp a14 m0_a14).2.1.trans k0_a14
    have m_a14 : a14 ∈ u.1 := (hp a14 m0_a14).1
    refine xiV (C := RX12) (As := [.ref (tt.1 45)]) (rest := []) ⟨hx, hb, hml, hown, hts⟩ (fun sz => t_X12_is l D k tt u hu h0 m_h0 k_h0 45 (by decide) sz) (cwV 1 hts gX12_readLine_X12_is rfl rfl rfl (by decide +kernel) ⟨Nat.le_of_ble_eq_true rfl, Nat.le_of_ble_eq_true rfl⟩) hP hK hD hN hE hS hA (precv hK hP m_h0 (cF12 k_h0) rfl) rfl hl.1 rfl (Nat.le_of_ble_eq_true rfl) dX12_readLine_147 ⟨Nat.le_of_ble_eq_true rfl, Nat.le_of_ble_eq_true rfl⟩ (fun r191 u192 H locs hqu192 hP hD hS => ?_)
    obtain ⟨hu, hxu192, hr191⟩ := hqu192
    have sameu192 : u = u192 := hr191.1.symm
    subst sameu192
    have hr191 := hr191.2
    rcases hr191 with ⟨er191, hnr191⟩ | ⟨er191, hir191, har191⟩
    · refine lv_if_eq (tgt := 164) hx hb dX12_readLine_150 (by decide) (fun _ => ?_) (fun h => absurd (by (try simp only [i_lt, i_le, i_eq, Int32.toInt_toInt64, Int32.reduceToInt, Int64.reduceToInt, true_and, and_true, false_and, and_false, false_or, or_false, true_or, or_true, not_true_eq_false, not_false_eq_true, ne_eq, forall_const, true_implies, false_implies, implies_true] at ex1 er191 ⊢) <;> omega) h)
      exact B164 _ _ _ ls hu hp hP hD hS (by first | exact fun q => absurd q hnr191 | exact ex0 | (intro q; (try simp only [i_lt, i_le, i_eq, Int32.toInt_toInt64, Int32.reduceToInt, Int64.reduceToInt, true_and, and_true, false_and, and_false, false_or, or_false, true_or, or_true, not_true_eq_false, not_false_eq_true, ne_eq, forall_const, true_implies, false_implies, implies_true] at ex1 er191 ⊢) <;> omega)) (by first | exact fun q => absurd q hnr191 | exact ex0 | (intro q; (try simp only [i_lt, i_le, i_eq, Int32.toInt_toInt64, Int32.reduceToInt, Int64.reduceToInt, true_and, and_true, false_and, and_false, false_or, or_false, true_or, or_true, not_true_eq_false, not_false_eq_true, ne_eq, forall_const, true_implies, false_implies, implies_true] at ex1 er191 ⊢) <;> omega)) (by (try simp only [i_lt, i_le, i_eq, Int32.toInt_toInt64, Int32.reduceToInt, Int64.reduceToInt, true_and, and_true, false_and, and_false, false_or, or_false, true_or, or_true, not_true_eq_false, not_false_eq_true, ne_eq, forall_const, true_implies, false_implies, implies_true] at ex1 er191 ⊢) <;> omega) (lv_sub hl [0] rfl)
    · refine lv_if_eq (tgt := 164) hx hb dX12_readLine_150 (by decide) (fun h => absurd h (by (try simp only [i_lt, i_le, i_eq, Int32.toInt_toInt64, Int32.reduceToInt, Int64.reduceToInt, true_and, and_true, false_and, and_false, false_or, or_false, true_or, or_true, not_true_eq_false, not_false_eq_true, ne_eq, forall_const, true_implies, false_implies, implies_true] at ex1 er191 har191 ⊢) <;> omega)) (fun _ => ?_)
      refine lv_aload_n hx hb dX12_readLine_153 rfl (lv_at hl 0 rfl) ?_
      refine pget (ci := 12) (v := va_rf (u.2.2.2.2 h0 14)) (C := RX12) (T := TX12) (N := 34) hx hb hts i_X12 hown hK hP m_h0 (cF12 k_h0) rfl 14 (by decide) (hts (.fieldLink RX12 34 "BellowsRowModel" "fresh" "[I") (by decide +kernel)) (fun _ h9 => h9) rfl dX12_readLine_154 ?_
      refine W.eq (g2 := F0 m 157 ls [.ref a14]) (by rw [(((hp h0 m0_h0).2.2.2.2.2.1 k0_h0 14).trans q0_14)]; rfl) ?_
      refine lv_iconst (v := 2) hx hb dX12_readLine_157 (by decide) ?_
      refine palI hx hb hK hP m_a14 (cF51 k_a14) 1 rfl (vp_in_iff.mpr (by decide)) dX12_readLine_158 ?_
      refine lv_topi (fun x193 ex193 => ?_)
      have tx193 : x193.toInt = (u.2.2.1 a14 2).toInt := congrArg Int32.toInt ex193
      have g194 : 0 ≤ x193.toInt ∧ x193.toInt ≤ 12 := by have g : okI (u.2.1 a14) (2) (u.2.2.1 a14 (2)) := (hu a14 m_a14).2.2.2 (2); rw [k_a14, ← (show x193 = u.2.2.1 a14 (2) from ex193)] at g; have g : okW (2) x193 := g; unfold okW at g; (try simp only [i_lt, i_le, i_eq, Int32.toInt_toInt64, Int32.reduceToInt, Int64.reduceToInt, true_and, and_true, false_and, and_false, false_or, or_false, true_or, or_true, not_true_eq_false, not_false_eq_true, ne_eq, forall_const, true_implies, false_implies, implies_true] at ex1 er191 har191 tx193 g ⊢) <;> omega
      refine lv_bipush (v := 12) hx hb dX12_readLine_159 (by decide) ?_
      refine lv_icmp_eq (tgt := 227) hx hb dX12_readLine_161 (by decide) (fun c195 => ?_) (fun c195 => ?_)
      · exact B227 _ _ _ ls hu hp hP hD hS (by (try simp only [i_lt, i_le, i_eq, Int32.toInt_toInt64, Int32.reduceToInt, Int64.reduceToInt, true_and, and_true, false_and, and_false, false_or, or_false, true_or, or_true, not_true_eq_false, not_false_eq_true, ne_eq, forall_const, true_implies, false_implies, implies_true] at ex1 er191 har191 tx193 g194 c195 ⊢) <;> omega) (lv_sub hl [0] rfl)
      · exact B164 _ _ _ ls hu hp hP hD hS (by first | exact ex0 | (intro q; (try simp only [i_lt, i_le, i_eq, Int32.toInt_toInt64, Int32.reduceToInt, Int64.reduceToInt, true_and, and_true, false_and, and_false, false_or, or_false, true_or, or_true, not_true_eq_false, not_false_eq_true, ne_eq, forall_const, true_implies, false_implies, implies_true] at ex1 er191 har191 tx193 g194 c195 ⊢) <;> omega)) (by first | exact ex0 | (intro q; (try simp only [i_lt, i_le, i_eq, Int32.toInt_toInt64, Int32.reduceToInt, Int64.reduceToInt, true_and, and_true, false_and, and_false, false_or, or_false, true_or, or_true, not_true_eq_false, not_false_eq_true, ne_eq, forall_const, true_implies, false_implies, implies_true] at ex1 er191 har191 tx193 g194 c195 ⊢) <;> omega)) (by (try simp only [i_lt, i_le, i_eq, Int32.toInt_toInt64, Int32.reduceToInt, Int64.reduceToInt, true_and, and_true, false_and, and_false, false_or, or_false, true_or, or_true, not_true_eq_false, not_false_eq_true, ne_eq, forall_const, true_implies, false_implies, implies_true] at ex1 er191 har191 tx193 g194 c195 ⊢) <;> omega) (lv_sub hl [0] rfl)
  have B124 : ∀ (u : PSt) (H : Heap) (locs : List Loc) (ls : Array Slot), WT u → PX u0 u → va_P D vwCl (PW k u) H → va_D A (PW k u) → va_S A s.heap H locs → ((u.2.2.1 a14 0).toInt = (u0.2.2.1 a14 0).toInt) → lv_has ls 3 [(0, .ref h0)] → W p l e (headSpec wsX12_readLine ({ frames := 9, cells := 0, slots := 0, locals := 197 })).room s m ([.ref h0] : List Value).toArray below meth c H locs 0 0 (MQ below (va_Qv (fun v => WT v ∧ PX u0 v ∧ (((v.2.2.1 h0 12).toInt = 0 → ((v.2.2.1 (ar u0 h0 14) 0).toInt = (u0.2.2.1 (ar u0 h0 14) 0).toInt + 1 ∧ (u0.2.2.1 (ar u0 h0 14) 0).toInt ≤ 59)) ∧ (u0.2.2.1 (ar u0 h0 14) 0).toInt ≤ (v.2.2.1 (ar u0 h0 14) 0).toInt)) (WB D A (PW k)) A) ([.ref h0] : List Value).toArray s 0 0 A) (F0 m 124 ls []) := by
    intro u H locs ls  hu hp hP hD hS ex0 hl
    refine lv_aload_n hx hb dX12_readLine_124 rfl (lv_at hl 0 rfl) ?_
    refine va_ldcS (own := RX12) (tx := "pot") (q := tt.1 44) hx hb hown (hE.2.1 (RX12, 171, "pot", 44) (by decide +kernel)) dX12_readLine_125 ?_
    have k_h0 : u.2.1 h0 = 12 := (hp h0 m0_h0).2.1.trans k0_h0
    have m_h0 : h0 ∈ u.1 := (hp h0 m0_h0).1
    have k_a14 : u.2.1 a14 = 51 := (hp a14 m0_a14).2.1.trans k0_a14
    have m_a14 : a14 ∈ u.1 := (hp a14 m0_a14).1
    refine xiV (C := RX12) (As := [.ref (tt.1 44)]) (rest := []) ⟨hx, hb, hml, hown, hts⟩ (fun sz => t_X12_is l D k tt u hu h0 m_h0 k_h0 44 (by decide) sz) (cwV 1 hts gX12_readLine_X12_is rfl rfl rfl (by decide +kernel) ⟨Nat.le_of_ble_eq_true rfl, Nat.le_of_ble_eq_true rfl⟩) hP hK hD hN hE hS hA (precv hK hP m_h0 (cF12 k_h0) rfl) rfl hl.1 rfl (Nat.le_of_ble_eq_true rfl) dX12_readLine_127 ⟨Nat.le_of_ble_eq_true rfl, Nat.le_of_ble_eq_true rfl⟩ (fun r196 u197 H locs hqu197 hP hD hS => ?_)
    obtain ⟨hu, hxu197, hr196⟩ := hqu197
    have sameu197 : u = u197 := hr196.1.symm
    subst sameu197
    have hr196 := hr196.2
    rcases hr196 with ⟨er196, hnr196⟩ | ⟨er196, hir196, har196⟩
    · refine lv_if_eq (tgt := 144) hx hb dX12_readLine_130 (by decide) (fun _ => ?_) (fun h => absurd (by (try simp only [i_lt, i_le, i_eq, Int32.toInt_toInt64, Int32.reduceToInt, Int64.reduceToInt, true_and, and_true, false_and, and_false, false_or, or_false, true_or, or_true, not_true_eq_false, not_false_eq_true, ne_eq, forall_const, true_implies, false_implies, implies_true] at ex0 er196 ⊢) <;> omega) h)
      exact B144 _ _ _ ls hu hp hP hD hS (by first | exact fun q => absurd q hnr196 | (intro q; (try simp only [i_lt, i_le, i_eq, Int32.toInt_toInt64, Int32.reduceToInt, Int64.reduceToInt, true_and, and_true, false_and, and_false, false_or, or_false, true_or, or_true, not_true_eq_false, not_false_eq_true, ne_eq, forall_const, true_implies, false_implies, implies_true] at ex0 er196 ⊢) <;> omega)) (by (try simp only [i_lt, i_le, i_eq, Int32.toInt_toInt64, Int32.reduceToInt, Int64.reduceToInt, true_and, and_true, false_and, and_false, false_or, or_false, true_or, or_true, not_true_eq_false, not_false_eq_true, ne_eq, forall_const, true_implies, false_implies, implies_true] at ex0 er196 ⊢) <;> omega) (lv_sub hl [0] rfl)
    · refine lv_if_eq (tgt := 144) hx hb dX12_readLine_130 (by decide) (fun h => absurd h (by (try simp only [i_lt, i_le, i_eq, Int32.toInt_toInt64, Int32.reduceToInt, Int64.reduceToInt, true_and, and_true, false_and, and_false, false_or, or_false, true_or, or_true, not_true_eq_false, not_false_eq_true, ne_eq, forall_const, true_implies, false_implies, implies_true] at ex0 er196 har196 ⊢) <;> omega)) (fun _ => ?_)
      refine lv_aload_n hx hb dX12_readLine_133 rfl (lv_at hl 0 rfl) ?_
      refine pget (ci := 12) (v := va_rf (u.2.2.2.2 h0 14)) (C := RX12) (T := TX12) (N := 34) hx hb hts i_X12 hown hK hP m_h0 (cF12 k_h0) rfl 14 (by decide) (hts (.fieldLink RX12 34 "BellowsRowModel" "fresh" "[I") (by decide +kernel)) (fun _ h9 => h9) rfl dX12_readLine_134 ?_
      refine W.eq (g2 := F0 m 137 ls [.ref a14]) (by rw [(((hp h0 m0_h0).2.2.2.2.2.1 k0_h0 14).trans q0_14)]; rfl) ?_
      refine lv_iconst (v := 1) hx hb dX12_readLine_137 (by decide) ?_
      refine palI hx hb hK hP m_a14 (cF51 k_a14) 1 rfl (vp_in_iff.mpr (by decide)) dX12_readLine_138 ?_
      refine lv_topi (fun x198 ex198 => ?_)
      have tx198 : x198.toInt = (u.2.2.1 a14 1).toInt := congrArg Int32.toInt ex198
      have g199 : 0 ≤ x198.toInt ∧ x198.toInt ≤ 8 := by have g : okI (u.2.1 a14) (1) (u.2.2.1 a14 (1)) := (hu a14 m_a14).2.2.2 (1); rw [k_a14, ← (show x198 = u.2.2.1 a14 (1) from ex198)] at g; have g : okW (1) x198 := g; unfold okW at g; (try simp only [i_lt, i_le, i_eq, Int32.toInt_toInt64, Int32.reduceToInt, Int64.reduceToInt, true_and, and_true, false_and, and_false, false_or, or_false, true_or, or_true, not_true_eq_false, not_false_eq_true, ne_eq, forall_const, true_implies, false_implies, implies_true] at ex0 er196 har196 tx198 g ⊢) <;> omega
      refine lv_bipush (v := 8) hx hb dX12_readLine_139 (by decide) ?_
      refine lv_icmp_eq (tgt := 227) hx hb dX12_readLine_141 (by decide) (fun c200 => ?_) (fun c200 => ?_)
      · exact B227 _ _ _ ls hu hp hP hD hS (by (try simp only [i_lt, i_le, i_eq, Int32.toInt_toInt64, Int32.reduceToInt, Int64.reduceToInt, true_and, and_true, false_and, and_false, false_or, or_false, true_or, or_true, not_true_eq_false, not_false_eq_true, ne_eq, forall_const, true_implies, false_implies, implies_true] at ex0 er196 har196 tx198 g199 c200 ⊢) <;> omega) (lv_sub hl [0] rfl)
      · exact B144 _ _ _ ls hu hp hP hD hS (by first | (intro q; (try simp only [i_lt, i_le, i_eq, Int32.toInt_toInt64, Int32.reduceToInt, Int64.reduceToInt, true_and, and_true, false_and, and_false, false_or, or_false, true_or, or_true, not_true_eq_false, not_false_eq_true, ne_eq, forall_const, true_implies, false_implies, implies_true] at ex0 er196 har196 tx198 g199 c200 ⊢) <;> omega)) (by (try simp only [i_lt, i_le, i_eq, Int32.toInt_toInt64, Int32.reduceToInt, Int64.reduceToInt, true_and, and_true, false_and, and_false, false_or, or_false, true_or, or_true, not_true_eq_false, not_false_eq_true, ne_eq, forall_const, true_implies, false_implies, implies_true] at ex0 er196 har196 tx198 g199 c200 ⊢) <;> omega) (lv_sub hl [0] rfl)
  have B102 : ∀ (u : PSt) (H : Heap) (locs : List Loc) (ls : Array Slot), WT u → PX u0 u → va_P D vwCl (PW k u) H → va_D A (PW k u) → va_S A s.heap H locs → ((u.2.2.1 a14 0).toInt = (u0.2.2.1 a14 0).toInt) → lv_has ls 3 [(0, .ref h0)] → W p l e (headSpec wsX12_readLine ({ frames := 9, cells := 0, slots := 0, locals := 197 })).room s m ([.ref h0] : List Value).toArray below meth c H locs 0 0 (MQ below (va_Qv (fun v => WT v ∧ PX u0 v ∧ (((v.2.2.1 h0 12).toInt = 0 → ((v.2.2.1 (ar u0 h0 14) 0).toInt = (u0.2.2.1 (ar u0 h0 14) 0).toInt + 1 ∧ (u0.2.2.1 (ar u0 h0 14) 0).toInt ≤ 59)) ∧ (u0.2.2.1 (ar u0 h0 14) 0).toInt ≤ (v.2.2.1 (ar u0 h0 14) 0).toInt)) (WB D A (PW k)) A) ([.ref h0] : List Value).toArray s 0 0 A) (F0 m 102 ls []) := by
    intro u H locs ls  hu hp hP hD hS ex0 hl
    refine lv_aload_n hx hb dX12_readLine_102 rfl (lv_at hl 0 rfl) ?_
    refine va_ldcSw (own := RX12) (tx := "wind") (q := tt.1 69) hx hb hown (hE.2.1 (RX12, 259, "wind", 69) (by decide +kernel)) dX12_readLine_103 ?_
    have k_h0 : u.2.1 h0 = 12 := (hp h0 m0_h0).2.1.trans k0_h0
    have m_h0 : h0 ∈ u.1 := (hp h0 m0_h0).1
    have k_a14 : u.2.1 a14 = 51 := (hp a14 m0_a14).2.1.trans k0_a14
    have m_a14 : a14 ∈ u.1 := (hp a14 m0_a14).1
    refine xiV (C := RX12) (As := [.ref (tt.1 69)]) (rest := []) ⟨hx, hb, hml, hown, hts⟩ (fun sz => t_X12_is l D k tt u hu h0 m_h0 k_h0 69 (by decide) sz) (cwV 1 hts gX12_readLine_X12_is rfl rfl rfl (by decide +kernel) ⟨Nat.le_of_ble_eq_true rfl, Nat.le_of_ble_eq_true rfl⟩) hP hK hD hN hE hS hA (precv hK hP m_h0 (cF12 k_h0) rfl) rfl hl.1 rfl (Nat.le_of_ble_eq_true rfl) dX12_readLine_106 ⟨Nat.le_of_ble_eq_true rfl, Nat.le_of_ble_eq_true rfl⟩ (fun r201 u202 H locs hqu202 hP hD hS => ?_)
    obtain ⟨hu, hxu202, hr201⟩ := hqu202
    have sameu202 : u = u202 := hr201.1.symm
    subst sameu202
    have hr201 := hr201.2
    rcases hr201 with ⟨er201, hnr201⟩ | ⟨er201, hir201, har201⟩
    · refine lv_if_eq (tgt := 124) hx hb dX12_readLine_109 (by decide) (fun _ => ?_) (fun h => absurd (by (try simp only [i_lt, i_le, i_eq, Int32.toInt_toInt64, Int32.reduceToInt, Int64.reduceToInt, true_and, and_true, false_and, and_false, false_or, or_false, true_or, or_true, not_true_eq_false, not_false_eq_true, ne_eq, forall_const, true_implies, false_implies, implies_true] at ex0 er201 ⊢) <;> omega) h)
      exact B124 _ _ _ ls hu hp hP hD hS (by (try simp only [i_lt, i_le, i_eq, Int32.toInt_toInt64, Int32.reduceToInt, Int64.reduceToInt, true_and, and_true, false_and, and_false, false_or, or_false, true_or, or_true, not_true_eq_false, not_false_eq_true, ne_eq, forall_const, true_implies, false_implies, implies_true] at ex0 er201 ⊢) <;> omega) (lv_sub hl [0] rfl)
    · refine lv_if_eq (tgt := 124) hx hb dX12_readLine_109 (by decide) (fun h => absurd h (by (try simp only [i_lt, i_le, i_eq, Int32.toInt_toInt64, Int32.reduceToInt, Int64.reduceToInt, true_and, and_true, false_and, and_false, false_or, or_false, true_or, or_true, not_true_eq_false, not_false_eq_true, ne_eq, forall_const, true_implies, false_implies, implies_true] at ex0 er201 har201 ⊢) <;> omega)) (fun _ => ?_)
      refine lv_aload_n hx hb dX12_readLine_112 rfl (lv_at hl 0 rfl) ?_
      refine pget (ci := 12) (v := .int (u.2.2.1 h0 15)) (C := RX12) (T := TX12) (N := 34) hx hb hts i_X12 hown hK hP m_h0 (cF12 k_h0) rfl 15 (by decide) (hts (.fieldLink RX12 251 "BellowsRowModel" "windTold" "Z") (by decide +kernel)) (fun _ h9 => h9) rfl dX12_readLine_113 ?_
      have g203 := (hu h0 m_h0).2.2.2 15
      rw [k_h0] at g203
      replace g203 : 0 ≤ (u.2.2.1 h0 15).toInt ∧ (u.2.2.1 h0 15).toInt ≤ 1 := g203
      refine lv_if_eq (tgt := 124) hx hb dX12_readLine_116 (by decide) (fun c204 => ?_) (fun c204 => ?_)
      · exact B124 _ _ _ ls hu hp hP hD hS (by (try simp only [i_lt, i_le, i_eq, Int32.toInt_toInt64, Int32.reduceToInt, Int64.reduceToInt, true_and, and_true, false_and, and_false, false_or, or_false, true_or, or_true, not_true_eq_false, not_false_eq_true, ne_eq, forall_const, true_implies, false_implies, implies_true] at ex0 er201 har201 g203 c204 ⊢) <;> omega) (lv_sub hl [0] rfl)
      · refine lv_aload_n hx hb dX12_readLine_119 rfl (lv_at hl 0 rfl) ?_
        refine lv_iconst (v := 2) hx hb dX12_readLine_120 (by decide) ?_
        refine wvV (C := RX12) (As := [.int 2]) (rest := []) ⟨hx, hb, hml, hown, hts⟩ (fun sz => t_X12_errs l D k u hu h0 m_h0 k_h0 2 (by decide) sz) (cwV 1 hts gX12_readLine_X12_errs rfl rfl rfl (by decide +kernel) ⟨Nat.le_of_ble_eq_true rfl, Nat.le_of_ble_eq_true rfl⟩) hP hK hD hN hS hA (precv hK hP m_h0 (cF12 k_h0) rfl) rfl hl.1 rfl (Nat.le_of_ble_eq_true rfl) dX12_readLine_121 ⟨Nat.le_of_ble_eq_true rfl, Nat.le_of_ble_eq_true rfl⟩ (fun u206 H locs hqu206 hP hD hS => ?_)
        obtain ⟨hu, hxu206, z207, hr205⟩ := hqu206
        have hp := PX.trans hp hxu206
        have w208 : (u206.2.2.1 a14 0).toInt = (u.2.2.1 a14 0).toInt := congrArg Int32.toInt (z207 a14 m_a14 k_a14 0)
        have w209 : (u206.2.2.1 a14 1).toInt = (u.2.2.1 a14 1).toInt := congrArg Int32.toInt (z207 a14 m_a14 k_a14 1)
        have w210 : (u206.2.2.1 a14 2).toInt = (u.2.2.1 a14 2).toInt := congrArg Int32.toInt (z207 a14 m_a14 k_a14 2)
        have w211 : (u206.2.2.1 a14 3).toInt = (u.2.2.1 a14 3).toInt := congrArg Int32.toInt (z207 a14 m_a14 k_a14 3)
        have w212 : (u206.2.2.1 a14 4).toInt = (u.2.2.1 a14 4).toInt := congrArg Int32.toInt (z207 a14 m_a14 k_a14 4)
        have w213 : (u206.2.2.1 a14 5).toInt = (u.2.2.1 a14 5).toInt := congrArg Int32.toInt (z207 a14 m_a14 k_a14 5)
        exact B124 _ _ _ ls hu hp hP hD hS (by (try simp only [i_lt, i_le, i_eq, Int32.toInt_toInt64, Int32.reduceToInt, Int64.reduceToInt, true_and, and_true, false_and, and_false, false_or, or_false, true_or, or_true, not_true_eq_false, not_false_eq_true, ne_eq, forall_const, true_implies, false_implies, implies_true] at ex0 er201 har201 g203 c204 w208 w209 w210 w211 w212 w213 hr205 ⊢) <;> omega) (lv_sub hl [0] rfl)
  have B87 : ∀ (u : PSt) (H : Heap) (locs : List Loc) (ls : Array Slot), WT u → PX u0 u → va_P D vwCl (PW k u) H → va_D A (PW k u) → va_S A s.heap H locs → ((u.2.2.1 a14 0).toInt = (u0.2.2.1 a14 0).toInt) → lv_has ls 3 [(0, .ref h0)] → W p l e (headSpec wsX12_readLine ({ frames := 9, cells := 0, slots := 0, locals := 197 })).room s m ([.ref h0] : List Value).toArray below meth c H locs 0 0 (MQ below (va_Qv (fun v => WT v ∧ PX u0 v ∧ (((v.2.2.1 h0 12).toInt = 0 → ((v.2.2.1 (ar u0 h0 14) 0).toInt = (u0.2.2.1 (ar u0 h0 14) 0).toInt + 1 ∧ (u0.2.2.1 (ar u0 h0 14) 0).toInt ≤ 59)) ∧ (u0.2.2.1 (ar u0 h0 14) 0).toInt ≤ (v.2.2.1 (ar u0 h0 14) 0).toInt)) (WB D A (PW k)) A) ([.ref h0] : List Value).toArray s 0 0 A) (F0 m 87 ls []) := by
    intro u H locs ls  hu hp hP hD hS ex0 hl
    refine lv_iconst (v := 1) hx hb dX12_readLine_87 (by decide) ?_
    refine lv_goto (tgt := 92) hx hb dX12_readLine_88 (by decide) ?_
    refine lv_istore_n (lv' := [(1, .int 1), (0, .ref h0)]) hx hb dX12_readLine_92 rfl hl (by decide) rfl (fun ls hl => ?_)
    refine lv_iload_n hx hb dX12_readLine_93 rfl (lv_at hl 0 rfl) ?_
    refine lv_if_ne (tgt := 102) hx hb dX12_readLine_94 (by decide) (fun _ => ?_) (fun h => absurd h (by (try simp only [i_lt, i_le, i_eq, Int32.toInt_toInt64, Int32.reduceToInt, Int64.reduceToInt, true_and, and_true, false_and, and_false, false_or, or_false, true_or, or_true, not_true_eq_false, not_false_eq_true, ne_eq, forall_const, true_implies, false_implies, implies_true] at ex0 ⊢) <;> omega))
    exact B102 _ _ _ ls hu hp hP hD hS (by (try simp only [i_lt, i_le, i_eq, Int32.toInt_toInt64, Int32.reduceToInt, Int64.reduceToInt, true_and, and_true, false_and, and_false, false_or, or_false, true_or, or_true, not_true_eq_false, not_false_eq_true, ne_eq, forall_const, true_implies, false_implies, implies_true] at ex0 ⊢) <;> omega) (lv_sub hl [1] rfl)
  have hl := lv_entry ([.ref h0]) (n := 3) (Nat.le_of_ble_eq_true rfl)
  rw [lg_entry_eq]
  generalize (lg_sl ([.ref h0]) ++ List.replicate (3 - (lg_sl ([.ref h0])).length) Slot.unset).toArray = ls at hl ⊢
  have hl : lv_has ls 3 [(0, .ref h0)] := hl
  refine lv_aload_n hx hb dX12_readLine_0 rfl (lv_at hl 0 rfl) ?_
  refine va_ldcS (own := RX12) (tx := "pot") (q := tt.1 44) hx hb hown (hE.2.1 (RX12, 171, "pot", 44) (by decide +kernel)) dX12_readLine_1 ?_
  refine xiV (C := RX12) (As := [.ref (tt.1 44)]) (rest := []) ⟨hx, hb, hml, hown, hts⟩ (fun sz => t_X12_is l D k tt u0 hu h0 m_h0 k_h0 44 (by decide) sz) (cwV 1 hts gX12_readLine_X12_is rfl rfl rfl (by decide +kernel) ⟨Nat.le_of_ble_eq_true rfl, Nat.le_of_ble_eq_true rfl⟩) hP hK hD hN hE hS hA (precv hK hP m_h0 (cF12 k_h0) rfl) rfl hl.1 rfl (Nat.le_of_ble_eq_true rfl) dX12_readLine_3 ⟨Nat.le_of_ble_eq_true rfl, Nat.le_of_ble_eq_true rfl⟩ (fun r214 u215 H locs hqu215 hP hD hS => ?_)
  obtain ⟨hu, hxu215, hr214⟩ := hqu215
  have sameu215 : u0 = u215 := hr214.1.symm
  subst sameu215
  have hr214 := hr214.2
  rcases hr214 with ⟨er214, hnr214⟩ | ⟨er214, hir214, har214⟩
  · refine lv_if_ne (tgt := 87) hx hb dX12_readLine_6 (by decide) (fun h => absurd (by (try simp only [i_lt, i_le, i_eq, Int32.toInt_toInt64, Int32.reduceToInt, Int64.reduceToInt, true_and, and_true, false_and, and_false, false_or, or_false, true_or, or_true, not_true_eq_false, not_false_eq_true, ne_eq, forall_const, true_implies, false_implies, implies_true] at er214 ⊢) <;> omega) h) (fun _ => ?_)
    refine lv_aload_n hx hb dX12_readLine_9 rfl (lv_at hl 0 rfl) ?_
    refine va_ldcS (own := RX12) (tx := "pipe") (q := tt.1 45) hx hb hown (hE.2.1 (RX12, 173, "pipe", 45) (by decide +kernel)) dX12_readLine_10 ?_
    refine xiV (C := RX12) (As := [.ref (tt.1 45)]) (rest := []) ⟨hx, hb, hml, hown, hts⟩ (fun sz => t_X12_is l D k tt u0 hu h0 m_h0 k_h0 45 (by decide) sz) (cwV 1 hts gX12_readLine_X12_is rfl rfl rfl (by decide +kernel) ⟨Nat.le_of_ble_eq_true rfl, Nat.le_of_ble_eq_true rfl⟩) hP hK hD hN hE hS hA (precv hK hP m_h0 (cF12 k_h0) rfl) rfl hl.1 rfl (Nat.le_of_ble_eq_true rfl) dX12_readLine_12 ⟨Nat.le_of_ble_eq_true rfl, Nat.le_of_ble_eq_true rfl⟩ (fun r216 u217 H locs hqu217 hP hD hS => ?_)
    obtain ⟨hu, hxu217, hr216⟩ := hqu217
    have sameu217 : u0 = u217 := hr216.1.symm
    subst sameu217
    have hr216 := hr216.2
    rcases hr216 with ⟨er216, hnr216⟩ | ⟨er216, hir216, har216⟩
    · refine lv_if_ne (tgt := 87) hx hb dX12_readLine_15 (by decide) (fun h => absurd (by (try simp only [i_lt, i_le, i_eq, Int32.toInt_toInt64, Int32.reduceToInt, Int64.reduceToInt, true_and, and_true, false_and, and_false, false_or, or_false, true_or, or_true, not_true_eq_false, not_false_eq_true, ne_eq, forall_const, true_implies, false_implies, implies_true] at er214 er216 ⊢) <;> omega) h) (fun _ => ?_)
      refine lv_aload_n hx hb dX12_readLine_18 rfl (lv_at hl 0 rfl) ?_
      refine va_ldcS (own := RX12) (tx := "run") (q := tt.1 67) hx hb hown (hE.2.1 (RX12, 255, "run", 67) (by decide +kernel)) dX12_readLine_19 ?_
      refine xiV (C := RX12) (As := [.ref (tt.1 67)]) (rest := []) ⟨hx, hb, hml, hown, hts⟩ (fun sz => t_X12_is l D k tt u0 hu h0 m_h0 k_h0 67 (by decide) sz) (cwV 1 hts gX12_readLine_X12_is rfl rfl rfl (by decide +kernel) ⟨Nat.le_of_ble_eq_true rfl, Nat.le_of_ble_eq_true rfl⟩) hP hK hD hN hE hS hA (precv hK hP m_h0 (cF12 k_h0) rfl) rfl hl.1 rfl (Nat.le_of_ble_eq_true rfl) dX12_readLine_21 ⟨Nat.le_of_ble_eq_true rfl, Nat.le_of_ble_eq_true rfl⟩ (fun r218 u219 H locs hqu219 hP hD hS => ?_)
      obtain ⟨hu, hxu219, hr218⟩ := hqu219
      have sameu219 : u0 = u219 := hr218.1.symm
      subst sameu219
      have hr218 := hr218.2
      rcases hr218 with ⟨er218, hnr218⟩ | ⟨er218, hir218, har218⟩
      · refine lv_if_ne (tgt := 87) hx hb dX12_readLine_24 (by decide) (fun h => absurd (by (try simp only [i_lt, i_le, i_eq, Int32.toInt_toInt64, Int32.reduceToInt, Int64.reduceToInt, true_and, and_true, false_and, and_false, false_or, or_false, true_or, or_true, not_true_eq_false, not_false_eq_true, ne_eq, forall_const, true_implies, false_implies, implies_true] at er214 er216 er218 ⊢) <;> omega) h) (fun _ => ?_)
        refine lv_aload_n hx hb dX12_readLine_27 rfl (lv_at hl 0 rfl) ?_
        refine va_ldcSw (own := RX12) (tx := "swing") (q := tt.1 68) hx hb hown (hE.2.1 (RX12, 257, "swing", 68) (by decide +kernel)) dX12_readLine_28 ?_
        refine xiV (C := RX12) (As := [.ref (tt.1 68)]) (rest := []) ⟨hx, hb, hml, hown, hts⟩ (fun sz => t_X12_is l D k tt u0 hu h0 m_h0 k_h0 68 (by decide) sz) (cwV 1 hts gX12_readLine_X12_is rfl rfl rfl (by decide +kernel) ⟨Nat.le_of_ble_eq_true rfl, Nat.le_of_ble_eq_true rfl⟩) hP hK hD hN hE hS hA (precv hK hP m_h0 (cF12 k_h0) rfl) rfl hl.1 rfl (Nat.le_of_ble_eq_true rfl) dX12_readLine_31 ⟨Nat.le_of_ble_eq_true rfl, Nat.le_of_ble_eq_true rfl⟩ (fun r220 u221 H locs hqu221 hP hD hS => ?_)
        obtain ⟨hu, hxu221, hr220⟩ := hqu221
        have sameu221 : u0 = u221 := hr220.1.symm
        subst sameu221
        have hr220 := hr220.2
        rcases hr220 with ⟨er220, hnr220⟩ | ⟨er220, hir220, har220⟩
        · refine lv_if_ne (tgt := 87) hx hb dX12_readLine_34 (by decide) (fun h => absurd (by (try simp only [i_lt, i_le, i_eq, Int32.toInt_toInt64, Int32.reduceToInt, Int64.reduceToInt, true_and, and_true, false_and, and_false, false_or, or_false, true_or, or_true, not_true_eq_false, not_false_eq_true, ne_eq, forall_const, true_implies, false_implies, implies_true] at er214 er216 er218 er220 ⊢) <;> omega) h) (fun _ => ?_)
          refine lv_aload_n hx hb dX12_readLine_37 rfl (lv_at hl 0 rfl) ?_
          refine va_ldcSw (own := RX12) (tx := "wind") (q := tt.1 69) hx hb hown (hE.2.1 (RX12, 259, "wind", 69) (by decide +kernel)) dX12_readLine_38 ?_
          refine xiV (C := RX12) (As := [.ref (tt.1 69)]) (rest := []) ⟨hx, hb, hml, hown, hts⟩ (fun sz => t_X12_is l D k tt u0 hu h0 m_h0 k_h0 69 (by decide) sz) (cwV 1 hts gX12_readLine_X12_is rfl rfl rfl (by decide +kernel) ⟨Nat.le_of_ble_eq_true rfl, Nat.le_of_ble_eq_true rfl⟩) hP hK hD hN hE hS hA (precv hK hP m_h0 (cF12 k_h0) rfl) rfl hl.1 rfl (Nat.le_of_ble_eq_true rfl) dX12_readLine_41 ⟨Nat.le_of_ble_eq_true rfl, Nat.le_of_ble_eq_true rfl⟩ (fun r222 u223 H locs hqu223 hP hD hS => ?_)
          obtain ⟨hu, hxu223, hr222⟩ := hqu223
          have sameu223 : u0 = u223 := hr222.1.symm
          subst sameu223
          have hr222 := hr222.2
          rcases hr222 with ⟨er222, hnr222⟩ | ⟨er222, hir222, har222⟩
          · refine lv_if_ne (tgt := 87) hx hb dX12_readLine_44 (by decide) (fun h => absurd (by (try simp only [i_lt, i_le, i_eq, Int32.toInt_toInt64, Int32.reduceToInt, Int64.reduceToInt, true_and, and_true, false_and, and_false, false_or, or_false, true_or, or_true, not_true_eq_false, not_false_eq_true, ne_eq, forall_const, true_implies, false_implies, implies_true] at er214 er216 er218 er220 er222 ⊢) <;> omega) h) (fun _ => ?_)
            refine lv_aload_n hx hb dX12_readLine_47 rfl (lv_at hl 0 rfl) ?_
            refine va_ldcSw (own := RX12) (tx := "room") (q := tt.1 70) hx hb hown (hE.2.1 (RX12, 261, "room", 70) (by decide +kernel)) dX12_readLine_48 ?_
            refine xiV (C := RX12) (As := [.ref (tt.1 70)]) (rest := []) ⟨hx, hb, hml, hown, hts⟩ (fun sz => t_X12_is l D k tt u0 hu h0 m_h0 k_h0 70 (by decide) sz) (cwV 1 hts gX12_readLine_X12_is rfl rfl rfl (by decide +kernel) ⟨Nat.le_of_ble_eq_true rfl, Nat.le_of_ble_eq_true rfl⟩) hP hK hD hN hE hS hA (precv hK hP m_h0 (cF12 k_h0) rfl) rfl hl.1 rfl (Nat.le_of_ble_eq_true rfl) dX12_readLine_51 ⟨Nat.le_of_ble_eq_true rfl, Nat.le_of_ble_eq_true rfl⟩ (fun r224 u225 H locs hqu225 hP hD hS => ?_)
            obtain ⟨hu, hxu225, hr224⟩ := hqu225
            have sameu225 : u0 = u225 := hr224.1.symm
            subst sameu225
            have hr224 := hr224.2
            rcases hr224 with ⟨er224, hnr224⟩ | ⟨er224, hir224, har224⟩
            · refine lv_if_ne (tgt := 87) hx hb dX12_readLine_54 (by decide) (fun h => absurd (by (try simp only [i_lt, i_le, i_eq, Int32.toInt_toInt64, Int32.reduceToInt, Int64.reduceToInt, true_and, and_true, false_and, and_false, false_or, or_false, true_or, or_true, not_true_eq_false, not_false_eq_true, ne_eq, forall_const, true_implies, false_implies, implies_true] at er214 er216 er218 er220 er222 er224 ⊢) <;> omega) h) (fun _ => ?_)
              refine lv_aload_n hx hb dX12_readLine_57 rfl (lv_at hl 0 rfl) ?_
              refine va_ldcSw (own := RX12) (tx := "person") (q := tt.1 71) hx hb hown (hE.2.1 (RX12, 263, "person", 71) (by decide +kernel)) dX12_readLine_58 ?_
              refine xiV (C := RX12) (As := [.ref (tt.1 71)]) (rest := []) ⟨hx, hb, hml, hown, hts⟩ (fun sz => t_X12_is l D k tt u0 hu h0 m_h0 k_h0 71 (by decide) sz) (cwV 1 hts gX12_readLine_X12_is rfl rfl rfl (by decide +kernel) ⟨Nat.le_of_ble_eq_true rfl, Nat.le_of_ble_eq_true rfl⟩) hP hK hD hN hE hS hA (precv hK hP m_h0 (cF12 k_h0) rfl) rfl hl.1 rfl (Nat.le_of_ble_eq_true rfl) dX12_readLine_61 ⟨Nat.le_of_ble_eq_true rfl, Nat.le_of_ble_eq_true rfl⟩ (fun r226 u227 H locs hqu227 hP hD hS => ?_)
              obtain ⟨hu, hxu227, hr226⟩ := hqu227
              have sameu227 : u0 = u227 := hr226.1.symm
              subst sameu227
              have hr226 := hr226.2
              rcases hr226 with ⟨er226, hnr226⟩ | ⟨er226, hir226, har226⟩
              · refine lv_if_ne (tgt := 87) hx hb dX12_readLine_64 (by decide) (fun h => absurd (by (try simp only [i_lt, i_le, i_eq, Int32.toInt_toInt64, Int32.reduceToInt, Int64.reduceToInt, true_and, and_true, false_and, and_false, false_or, or_false, true_or, or_true, not_true_eq_false, not_false_eq_true, ne_eq, forall_const, true_implies, false_implies, implies_true] at er214 er216 er218 er220 er222 er224 er226 ⊢) <;> omega) h) (fun _ => ?_)
                refine lv_aload_n hx hb dX12_readLine_67 rfl (lv_at hl 0 rfl) ?_
                refine va_ldcSw (own := RX12) (tx := "rule") (q := tt.1 72) hx hb hown (hE.2.1 (RX12, 265, "rule", 72) (by decide +kernel)) dX12_readLine_68 ?_
                refine xiV (C := RX12) (As := [.ref (tt.1 72)]) (rest := []) ⟨hx, hb, hml, hown, hts⟩ (fun sz => t_X12_is l D k tt u0 hu h0 m_h0 k_h0 72 (by decide) sz) (cwV 1 hts gX12_readLine_X12_is rfl rfl rfl (by decide +kernel) ⟨Nat.le_of_ble_eq_true rfl, Nat.le_of_ble_eq_true rfl⟩) hP hK hD hN hE hS hA (precv hK hP m_h0 (cF12 k_h0) rfl) rfl hl.1 rfl (Nat.le_of_ble_eq_true rfl) dX12_readLine_71 ⟨Nat.le_of_ble_eq_true rfl, Nat.le_of_ble_eq_true rfl⟩ (fun r228 u229 H locs hqu229 hP hD hS => ?_)
                obtain ⟨hu, hxu229, hr228⟩ := hqu229
                have sameu229 : u0 = u229 := hr228.1.symm
                subst sameu229
                have hr228 := hr228.2
                rcases hr228 with ⟨er228, hnr228⟩ | ⟨er228, hir228, har228⟩
                · refine lv_if_ne (tgt := 87) hx hb dX12_readLine_74 (by decide) (fun h => absurd (by (try simp only [i_lt, i_le, i_eq, Int32.toInt_toInt64, Int32.reduceToInt, Int64.reduceToInt, true_and, and_true, false_and, and_false, false_or, or_false, true_or, or_true, not_true_eq_false, not_false_eq_true, ne_eq, forall_const, true_implies, false_implies, implies_true] at er214 er216 er218 er220 er222 er224 er226 er228 ⊢) <;> omega) h) (fun _ => ?_)
                  refine lv_aload_n hx hb dX12_readLine_77 rfl (lv_at hl 0 rfl) ?_
                  refine va_ldcSw (own := RX12) (tx := "change") (q := tt.1 73) hx hb hown (hE.2.1 (RX12, 267, "change", 73) (by decide +kernel)) dX12_readLine_78 ?_
                  refine xiV (C := RX12) (As := [.ref (tt.1 73)]) (rest := []) ⟨hx, hb, hml, hown, hts⟩ (fun sz => t_X12_is l D k tt u0 hu h0 m_h0 k_h0 73 (by decide) sz) (cwV 1 hts gX12_readLine_X12_is rfl rfl rfl (by decide +kernel) ⟨Nat.le_of_ble_eq_true rfl, Nat.le_of_ble_eq_true rfl⟩) hP hK hD hN hE hS hA (precv hK hP m_h0 (cF12 k_h0) rfl) rfl hl.1 rfl (Nat.le_of_ble_eq_true rfl) dX12_readLine_81 ⟨Nat.le_of_ble_eq_true rfl, Nat.le_of_ble_eq_true rfl⟩ (fun r230 u231 H locs hqu231 hP hD hS => ?_)
                  obtain ⟨hu, hxu231, hr230⟩ := hqu231
                  have sameu231 : u0 = u231 := hr230.1.symm
                  subst sameu231
                  have hr230 := hr230.2
                  rcases hr230 with ⟨er230, hnr230⟩ | ⟨er230, hir230, har230⟩
                  · refine lv_if_eq (tgt := 91) hx hb dX12_readLine_84 (by decide) (fun _ => ?_) (fun h => absurd (by (try simp only [i_lt, i_le, i_eq, Int32.toInt_toInt64, Int32.reduceToInt, Int64.reduceToInt, true_and, and_true, false_and, and_false, false_or, or_false, true_or, or_true, not_true_eq_false, not_false_eq_true, ne_eq, forall_const, true_implies, false_implies, implies_true] at er214 er216 er218 er220 er222 er224 er226 er228 er230 ⊢) <;> omega) h)
                    refine lv_iconst (v := 0) hx hb dX12_readLine_91 (by decide) ?_
                    refine lv_istore_n (lv' := [(1, .int 0), (0, .ref h0)]) hx hb dX12_readLine_92 rfl hl (by decide) rfl (fun ls hl => ?_)
                    refine lv_iload_n hx hb dX12_readLine_93 rfl (lv_at hl 0 rfl) ?_
                    refine lv_if_ne (tgt := 102) hx hb dX12_readLine_94 (by decide) (fun h => absurd (by (try simp only [i_lt, i_le, i_eq, Int32.toInt_toInt64, Int32.reduceToInt, Int64.reduceToInt, true_and, and_true, false_and, and_false, false_or, or_false, true_or, or_true, not_true_eq_false, not_false_eq_true, ne_eq, forall_const, true_implies, false_implies, implies_true] at er214 er216 er218 er220 er222 er224 er226 er228 er230 ⊢) <;> omega) h) (fun _ => ?_)
                    refine lv_aload_n hx hb dX12_readLine_97 rfl (lv_at hl 1 rfl) ?_
                    refine lv_iconst (v := 1) hx hb dX12_readLine_98 (by decide) ?_
                    refine wvV (C := RX12) (As := [.int 1]) (rest := []) ⟨hx, hb, hml, hown, hts⟩ (fun sz => t_X12_errs l D k u0 hu h0 m_h0 k_h0 1 (by decide) sz) (cwV 1 hts gX12_readLine_X12_errs rfl rfl rfl (by decide +kernel) ⟨Nat.le_of_ble_eq_true rfl, Nat.le_of_ble_eq_true rfl⟩) hP hK hD hN hS hA (precv hK hP m_h0 (cF12 k_h0) rfl) rfl hl.1 rfl (Nat.le_of_ble_eq_true rfl) dX12_readLine_99 ⟨Nat.le_of_ble_eq_true rfl, Nat.le_of_ble_eq_true rfl⟩ (fun u233 H locs hqu233 hP hD hS => ?_)
                    obtain ⟨hu, hxu233, z234, hr232⟩ := hqu233
                    have hp := PX.trans hp hxu233
                    have w235 : (u233.2.2.1 a14 0).toInt = (u0.2.2.1 a14 0).toInt := congrArg Int32.toInt (z234 a14 m_a14 k_a14 0)
                    have w236 : (u233.2.2.1 a14 1).toInt = (u0.2.2.1 a14 1).toInt := congrArg Int32.toInt (z234 a14 m_a14 k_a14 1)
                    have w237 : (u233.2.2.1 a14 2).toInt = (u0.2.2.1 a14 2).toInt := congrArg Int32.toInt (z234 a14 m_a14 k_a14 2)
                    have w238 : (u233.2.2.1 a14 3).toInt = (u0.2.2.1 a14 3).toInt := congrArg Int32.toInt (z234 a14 m_a14 k_a14 3)
                    have w239 : (u233.2.2.1 a14 4).toInt = (u0.2.2.1 a14 4).toInt := congrArg Int32.toInt (z234 a14 m_a14 k_a14 4)
                    have w240 : (u233.2.2.1 a14 5).toInt = (u0.2.2.1 a14 5).toInt := congrArg Int32.toInt (z234 a14 m_a14 k_a14 5)
                    exact B102 _ _ _ ls hu hp hP hD hS (by (try simp only [i_lt, i_le, i_eq, Int32.toInt_toInt64, Int32.reduceToInt, Int64.reduceToInt, true_and, and_true, false_and, and_false, false_or, or_false, true_or, or_true, not_true_eq_false, not_false_eq_true, ne_eq, forall_const, true_implies, false_implies, implies_true] at er214 er216 er218 er220 er222 er224 er226 er228 er230 w235 w236 w237 w238 w239 w240 hr232 ⊢) <;> omega) (lv_sub hl [1] rfl)
                  · refine lv_if_eq (tgt := 91) hx hb dX12_readLine_84 (by decide) (fun h => absurd h (by (try simp only [i_lt, i_le, i_eq, Int32.toInt_toInt64, Int32.reduceToInt, Int64.reduceToInt, true_and, and_true, false_and, and_false, false_or, or_false, true_or, or_true, not_true_eq_false, not_false_eq_true, ne_eq, forall_const, true_implies, false_implies, implies_true] at er214 er216 er218 er220 er222 er224 er226 er228 er230 har230 ⊢) <;> omega)) (fun _ => ?_)
                    exact B87 _ _ _ ls hu hp hP hD hS (by (try simp only [i_lt, i_le, i_eq, Int32.toInt_toInt64, Int32.reduceToInt, Int64.reduceToInt, true_and, and_true, false_and, and_false, false_or, or_false, true_or, or_true, not_true_eq_false, not_false_eq_true, ne_eq, forall_const, true_implies, false_implies, implies_true] at er214 er216 er218 er220 er222 er224 er226 er228 er230 har230 ⊢) <;> omega) (lv_sub hl [0] rfl)
                · refine lv_if_ne (tgt := 87) hx hb dX12_readLine_74 (by decide) (fun _ => ?_) (fun h => absurd h (by (try simp only [i_lt, i_le, i_eq, Int32.toInt_toInt64, Int32.reduceToInt, Int64.reduceToInt, true_and, and_true, false_and, and_false, false_or, or_false, true_or, or_true, not_true_eq_false, not_false_eq_true, ne_eq, forall_const, true_implies, false_implies, implies_true] at er214 er216 er218 er220 er222 er224 er226 er228 har228 ⊢) <;> omega))
                  exact B87 _ _ _ ls hu hp hP hD hS (by (try simp only [i_lt, i_le, i_eq, Int32.toInt_toInt64, Int32.reduceToInt, Int64.reduceToInt, true_and, and_true, false_and, and_false, false_or, or_false, true_or, or_true, not_true_eq_false, not_false_eq_true, ne_eq, forall_const, true_implies, false_implies, implies_true] at er214 er216 er218 er220 er222 er224 er226 er228 har228 ⊢) <;> omega) (lv_sub hl [0] rfl)
              · refine lv_if_ne (tgt := 87) hx hb dX12_readLine_64 (by decide) (fun _ => ?_) (fun h => absurd h (by (try simp only [i_lt, i_le, i_eq, Int32.toInt_toInt64, Int32.reduceToInt, Int64.reduceToInt, true_and, and_true, false_and, and_false, false_or, or_false, true_or, or_true, not_true_eq_false, not_false_eq_true, ne_eq, forall_const, true_implies, false_implies, implies_true] at er214 er216 er218 er220 er222 er224 er226 har226 ⊢) <;> omega))
                exact B87 _ _ _ ls hu hp hP hD hS (by (try simp only [i_lt, i_le, i_eq, Int32.toInt_toInt64, Int32.reduceToInt, Int64.reduceToInt, true_and, and_true, false_and, and_false, false_or, or_false, true_or, or_true, not_true_eq_false, not_false_eq_true, ne_eq, forall_const, true_implies, false_implies, implies_true] at er214 er216 er218 er220 er222 er224 er226 har226 ⊢) <;> omega) (lv_sub hl [0] rfl)
            · refine lv_if_ne (tgt := 87) hx hb dX12_readLine_54 (by decide) (fun _ => ?_) (fun h => absurd h (by (try simp only [i_lt, i_le, i_eq, Int32.toInt_toInt64, Int32.reduceToInt, Int64.reduceToInt, true_and, and_true, false_and, and_false, false_or, or_false, true_or, or_true, not_true_eq_false, not_false_eq_true, ne_eq, forall_const, true_implies, false_implies, implies_true] at er214 er216 er218 er220 er222 er224 har224 ⊢) <;> omega))
              exact B87 _ _ _ ls hu hp hP hD hS (by (try simp only [i_lt, i_le, i_eq, Int32.toInt_toInt64, Int32.reduceToInt, Int64.reduceToInt, true_and, and_true, false_and, and_false, false_or, or_false, true_or, or_true, not_true_eq_false, not_false_eq_true, ne_eq, forall_const, true_implies, false_implies, implies_true] at er214 er216 er218 er220 er222 er224 har224 ⊢) <;> omega) (lv_sub hl [0] rfl)
          · refine lv_if_ne (tgt := 87) hx hb dX12_readLine_44 (by decide) (fun _ => ?_) (fun h => absurd h (by (try simp only [i_lt, i_le, i_eq, Int32.toInt_toInt64, Int32.reduceToInt, Int64.reduceToInt, true_and, and_true, false_and, and_false, false_or, or_false, true_or, or_true, not_true_eq_false, not_false_eq_true, ne_eq, forall_const, true_implies, false_implies, implies_true] at er214 er216 er218 er220 er222 har222 ⊢) <;> omega))
            exact B87 _ _ _ ls hu hp hP hD hS (by (try simp only [i_lt, i_le, i_eq, Int32.toInt_toInt64, Int32.reduceToInt, Int64.reduceToInt, true_and, and_true, false_and, and_false, false_or, or_false, true_or, or_true, not_true_eq_false, not_false_eq_true, ne_eq, forall_const, true_implies, false_implies, implies_true] at er214 er216 er218 er220 er222 har222 ⊢) <;> omega) (lv_sub hl [0] rfl)
        · refine lv_if_ne (tgt := 87) hx hb dX12_readLine_34 (by decide) (fun _ => ?_) (fun h => absurd h (by (try simp only [i_lt, i_le, i_eq, Int32.toInt_toInt64, Int32.reduceToInt, Int64.reduceToInt, true_and, and_true, false_and, and_false, false_or, or_false, true_or, or_true, not_true_eq_false, not_false_eq_true, ne_eq, forall_const, true_implies, false_implies, implies_true] at er214 er216 er218 er220 har220 ⊢) <;> omega))
          exact B87 _ _ _ ls hu hp hP hD hS (by (try simp only [i_lt, i_le, i_eq, Int32.toInt_toInt64, Int32.reduceToInt, Int64.reduceToInt, true_and, and_true, false_and, and_false, false_or, or_false, true_or, or_true, not_true_eq_false, not_false_eq_true, ne_eq, forall_const, true_implies, false_implies, implies_true] at er214 er216 er218 er220 har220 ⊢) <;> omega) (lv_sub hl [0] rfl)
      · refine lv_if_ne (tgt := 87) hx hb dX12_readLine_24 (by decide) (fun _ => ?_) (fun h => absurd h (by (try simp only [i_lt, i_le, i_eq, Int32.toInt_toInt64, Int32.reduceToInt, Int64.reduceToInt, true_and, and_true, false_and, and_false, false_or, or_false, true_or, or_true, not_true_eq_false, not_false_eq_true, ne_eq, forall_const, true_implies, false_implies, implies_true] at er214 er216 er218 har218 ⊢) <;> omega))
        exact B87 _ _ _ ls hu hp hP hD hS (by (try simp only [i_lt, i_le, i_eq, Int32.toInt_toInt64, Int32.reduceToInt, Int64.reduceToInt, true_and, and_true, false_and, and_false, false_or, or_false, true_or, or_true, not_true_eq_false, not_false_eq_true, ne_eq, forall_const, true_implies, false_implies, implies_true] at er214 er216 er218 har218 ⊢) <;> omega) (lv_sub hl [0] rfl)
    · refine lv_if_ne (tgt := 87) hx hb dX12_readLine_15 (by decide) (fun _ => ?_) (fun h => absurd h (by (try simp only [i_lt, i_le, i_eq, Int32.toInt_toInt64, Int32.reduceToInt, Int64.reduceToInt, true_and, and_true, false_and, and_false, false_or, or_false, true_or, or_true, not_true_eq_false, not_false_eq_true, ne_eq, forall_const, true_implies, false_implies, implies_true] at er214 er216 har216 ⊢) <;> omega))
      exact B87 _ _ _ ls hu hp hP hD hS (by (try simp only [i_lt, i_le, i_eq, Int32.toInt_toInt64, Int32.reduceToInt, Int64.reduceToInt, true_and, and_true, false_and, and_false, false_or, or_false, true_or, or_true, not_true_eq_false, not_false_eq_true, ne_eq, forall_const, true_implies, false_implies, implies_true] at er214 er216 har216 ⊢) <;> omega) (lv_sub hl [0] rfl)
  · refine lv_if_ne (tgt := 87) hx hb dX12_readLine_6 (by decide) (fun _ => ?_) (fun h => absurd h (by (try simp only [i_lt, i_le, i_eq, Int32.toInt_toInt64, Int32.reduceToInt, Int64.reduceToInt, true_and, and_true, false_and, and_false, false_or, or_false, true_or, or_true, not_true_eq_false, not_false_eq_true, ne_eq, forall_const, true_implies, false_implies, implies_true] at er214 har214 ⊢) <;> omega))
    exact B87 _ _ _ ls hu hp hP hD hS (by (try simp only [i_lt, i_le, i_eq, Int32.toInt_toInt64, Int32.reduceToInt, Int64.reduceToInt, true_and, and_true, false_and, and_false, false_or, or_false, true_or, or_true, not_true_eq_false, not_false_eq_true, ne_eq, forall_const, true_implies, false_implies, implies_true] at er214 har214 ⊢) <;> omega) (lv_sub hl [0] rfl)
set_option maxRecDepth 20000 in
def wpX12_works : List Cond := .code yX12_works cX12_works 2 (some .int) :: (([.fieldLink RX12 13 "BellowsRowModel" "world" "[I", .fieldLink RX12 34 "BellowsRowModel" "fresh" "[I", .fieldLink RX12 98 "BellowsRowModel" "token" "I", .fieldLink RX12 251 "BellowsRowModel" "windTold" "Z", .fieldLink RX12 82 "BellowsRowModel" "taped" "I", .fieldLink RX12 85 "BellowsRowModel" "size" "I", .fieldLink RX12 88 "BellowsRowModel" "at" "I", .fieldLink RX12 119 "BellowsRowModel" "faultKind" "I", .fieldLink RX12 31 "BellowsRowModel" "faultPlace" "I"] ++ wsX120) ++ ((wsV RX12 122 RX12 yX12_good wsX12_good) ++ ((wsV RX12 296 RX12 yX12_readLine wsX12_readLine) ++ ((wsV RX12 140 RX12 yX12_advance wsX12_advance) ++ []))))
set_option maxRecDepth 20000 in
theorem gpX12_works_X12_good : GoodIn wpX12_works (wsV RX12 122 RX12 yX12_good wsX12_good) := fun w hw => ⟨List.mem_cons_of_mem _ (List.mem_append_right _ (List.mem_append_left _ hw)), (goodIn_self (ws := (wsV RX12 122 RX12 yX12_good wsX12_good)) (by decide +kernel) w hw).2⟩
set_option maxRecDepth 20000 in
theorem gpX12_works_X12_readLine : GoodIn wpX12_works (wsV RX12 296 RX12 yX12_readLine wsX12_readLine) := fun w hw => ⟨List.mem_cons_of_mem _ (List.mem_append_right _ (List.mem_append_right _ (List.mem_append_left _ hw))), (goodIn_self (ws := (wsV RX12 296 RX12 yX12_readLine wsX12_readLine)) (by decide +kernel) w hw).2⟩
set_option maxRecDepth 20000 in
theorem gpX12_works_X12_advance : GoodIn wpX12_works (wsV RX12 140 RX12 yX12_advance wsX12_advance) := fun w hw => ⟨List.mem_cons_of_mem _ (List.mem_append_right _ (List.mem_append_right _ (List.mem_append_right _ (List.mem_append_left _ hw)))), (goodIn_self (ws := (wsV RX12 140 RX12 yX12_advance wsX12_advance)) (by decide +kernel) w hw).2⟩
set_option maxHeartbeats 4000000 in
set_option maxRecDepth 100000 in
theorem t_X12_works (l : Launch) (D : va_G) (k : Nat → ClassId) (tt : TT) (u0 : PSt) (hu : WT u0) (h0 : Nat) (m_h0 : h0 ∈ u0.1) (k_h0 : u0.2.1 h0 = 12) (sz : Nat) : Met l yX12_works wpX12_works ({ frames := 10, cells := 0, slots := 0, locals := 219 }) (PreT D k tt sz (PW k u0) [.ref h0]) (va_Qi (fun r v => WT v ∧ PX u0 v ∧ (True)) (WB D (va_A (PW k u0) sz) (PW k)) (va_A (PW k u0) sz)) 0 0 (va_A (PW k u0) sz) := by
  refine Met.ofW (cc := cX12_works) (maxL := 2) (ret := (some .int)) (by decide) rfl ?_
  intro p e s m args below meth c s₁ B hml hv
  obtain ⟨rfl, hsz, hP, hK, hD0, hN, hE0⟩ := hv
  have hx := B.exec
  have hb := B.bytes
  have hr := B.returns
  have hts := atoms_spec (ws := wpX12_works) B.pre
  have hown : s.vm.findClass RX12 = some m.cls := findClass_of_methodNamed B.named
  have hlocks := B.notSynchronized
  have i_X12 : ∀ w ∈ wsX120, w ∈ wpX12_works := by decide +kernel
  obtain ⟨a1, q0_1, m0_a1, k0_a1⟩ := (hu h0 m_h0).1 1 50 (by rw [k_h0]; rfl)
  obtain ⟨a14, q0_14, m0_a14, k0_a14⟩ := (hu h0 m_h0).1 14 51 (by rw [k_h0]; rfl)
  have m0_h0 := m_h0
  have k0_h0 := k_h0
  have m_a1 := m0_a1
  have m_a14 := m0_a14
  have k_a1 := k0_a1
  have k_a14 := k0_a14
  subst hsz
  have hD := hD0.self (sz := s.heap.size)
  have hE := hE0
  generalize hAe : va_A (PW k u0) s.heap.size = A at hD hE ⊢
  have hA : ∀ q : Nat, s.heap.size ≤ q → A q := fun q h => by rw [← hAe]; exact Or.inr h
  have hS : va_S A s.heap s.heap [] := va_S.rf
  have hp : PX u0 u0 := PX.rf
  have B92 : ∀ (n92 : Nat) (u : PSt) (H : Heap) (locs : List Loc) (ls : Array Slot) (v1 : Int32), WT u → PX u0 u → va_P D vwCl (PW k u) H → va_D A (PW k u) → va_S A s.heap H locs → (2147483648 - v1.toInt).toNat ≤ n92 → 0 ≤ v1.toInt ∧ v1.toInt ≤ 2482 → lv_has ls 2 [(0, .ref h0), (1, .int v1)] → W p l e (headSpec wpX12_works ({ frames := 10, cells := 0, slots := 0, locals := 219 })).room s m ([.ref h0] : List Value).toArray below meth c H locs 0 0 (MQ below (va_Qi (fun r v => WT v ∧ PX u0 v ∧ (True)) (WB D A (PW k)) A) ([.ref h0] : List Value).toArray s 0 0 A) (F0 m 92 ls []) := by
    intro n92
    induction n92 with
    | zero =>
      intro u H locs ls v1 hu hp hP hD hS hn92 g_v1 hl
      exact absurd hn92 (by have := Int32.toInt_lt v1; have := Int32.le_toInt v1; omega)
    | succ n92 ih92 =>
      intro u H locs ls v1 hu hp hP hD hS hn92 g_v1 hl
      refine lv_iload_n hx hb dX12_works_92 rfl (lv_at hl 1 rfl) ?_
      refine lv_sipush (v := 2482) hx hb dX12_works_93 (by decide) ?_
      refine lv_icmp_ge (tgt := 117) hx hb dX12_works_96 (by decide) (fun c1 => ?_) (fun c1 => ?_)
      · refine lv_aload_n hx hb dX12_works_117 rfl (lv_at hl 0 rfl) ?_
        have k_h0 : u.2.1 h0 = 12 := (hp h0 m0_h0).2.1.trans k0_h0
        have m_h0 : h0 ∈ u.1 := (hp h0 m0_h0).1
        have k_a1 : u.2.1 a1 = 50 := (hp a1 m0_a1).2.1.trans k0_a1
        have m_a1 : a1 ∈ u.1 := (hp a1 m0_a1).1
        refine pget (ci := 12) (v := va_rf (u.2.2.2.2 h0 1)) (C := RX12) (T := TX12) (N := 34) hx hb hts i_X12 hown hK hP m_h0 (cF12 k_h0) rfl 1 (by decide) (hts (.fieldLink RX12 13 "BellowsRowModel" "world" "[I") (by decide +kernel)) (fun _ h9 => h9) rfl dX12_works_118 ?_
        refine W.eq (g2 := F0 m 121 ls [.ref a1]) (by rw [(((hp h0 m0_h0).2.2.2.2.2.1 k0_h0 1).trans q0_1)]; rfl) ?_
        refine lv_iconst (v := 0) hx hb dX12_works_121 (by decide) ?_
        refine palI hx hb hK hP m_a1 (cF50 k_a1) 1 rfl (vp_in_iff.mpr (by decide)) dX12_works_122 ?_
        refine lv_topi (fun x2 ex2 => ?_)
        have tx2 : x2.toInt = (u.2.2.1 a1 0).toInt := congrArg Int32.toInt ex2
        have g3 : okW (0) x2 := by have g := (hu a1 m_a1).2.2.2 (0); rw [k_a1] at g; rw [show x2 = _ from ex2]; exact g
        have g4 : 0 ≤ x2.toInt ∧ x2.toInt ≤ 60 := by have g : okI (u.2.1 a1) (0) (u.2.2.1 a1 (0)) := (hu a1 m_a1).2.2.2 (0); rw [k_a1, ← (show x2 = u.2.2.1 a1 (0) from ex2)] at g; have g : okW (0) x2 := g; unfold okW at g; (try simp only [i_lt, i_le, i_eq, Int32.toInt_toInt64, Int32.reduceToInt, Int64.reduceToInt, true_and, and_true, false_and, and_false, false_or, or_false, true_or, or_true, not_true_eq_false, not_false_eq_true, ne_eq, forall_const, true_implies, false_implies, implies_true] at g_v1 hn92 c1 tx2 g ⊢) <;> omega
        exact W.iret (v := x2) hx hb hr (fun t ht hW => ⟨⟨x2, u, rfl, ⟨hu, hp, trivial⟩, by rw [ht]; exact hP, hD⟩, hS.F ht⟩) hS.2.2 dX12_works_123
      · refine lv_aload_n hx hb dX12_works_99 rfl (lv_at hl 0 rfl) ?_
        have k_h0 : u.2.1 h0 = 12 := (hp h0 m0_h0).2.1.trans k0_h0
        have m_h0 : h0 ∈ u.1 := (hp h0 m0_h0).1
        have k_a1 : u.2.1 a1 = 50 := (hp a1 m0_a1).2.1.trans k0_a1
        have m_a1 : a1 ∈ u.1 := (hp a1 m0_a1).1
        refine pget (ci := 12) (v := va_rf (u.2.2.2.2 h0 1)) (C := RX12) (T := TX12) (N := 34) hx hb hts i_X12 hown hK hP m_h0 (cF12 k_h0) rfl 1 (by decide) (hts (.fieldLink RX12 13 "BellowsRowModel" "world" "[I") (by decide +kernel)) (fun _ h9 => h9) rfl dX12_works_100 ?_
        refine W.eq (g2 := F0 m 103 ls [.ref a1]) (by rw [(((hp h0 m0_h0).2.2.2.2.2.1 k0_h0 1).trans q0_1)]; rfl) ?_
        refine lv_iload_n hx hb dX12_works_103 rfl (lv_at hl 1 rfl) ?_
        refine lv_aload_n hx hb dX12_works_104 rfl (lv_at hl 0 rfl) ?_
        have k_a14 : u.2.1 a14 = 51 := (hp a14 m0_a14).2.1.trans k0_a14
        have m_a14 : a14 ∈ u.1 := (hp a14 m0_a14).1
        refine pget (ci := 12) (v := va_rf (u.2.2.2.2 h0 14)) (C := RX12) (T := TX12) (N := 34) hx hb hts i_X12 hown hK hP m_h0 (cF12 k_h0) rfl 14 (by decide) (hts (.fieldLink RX12 34 "BellowsRowModel" "fresh" "[I") (by decide +kernel)) (fun _ h9 => h9) rfl dX12_works_105 ?_
        refine W.eq (g2 := F0 m 108 ls [.ref a14, .int v1, .ref a1]) (by rw [(((hp h0 m0_h0).2.2.2.2.2.1 k0_h0 14).trans q0_14)]; rfl) ?_
        refine lv_iload_n hx hb dX12_works_108 rfl (lv_at hl 1 rfl) ?_
        refine palI hx hb hK hP m_a14 (cF51 k_a14) 1 rfl (vp_in_iff.mpr (by (try simp only [i_lt, i_le, i_eq, Int32.toInt_toInt64, Int32.reduceToInt, Int64.reduceToInt, true_and, and_true, false_and, and_false, false_or, or_false, true_or, or_true, not_true_eq_false, not_false_eq_true, ne_eq, forall_const, true_implies, false_implies, implies_true] at g_v1 hn92 c1 ⊢) <;> omega)) dX12_works_109 ?_
        refine lv_topi (fun x5 ex5 => ?_)
        have tx5 : x5.toInt = (u.2.2.1 a14 (v1.toNatClampNeg)).toInt := congrArg Int32.toInt ex5
        have g6 : okW (v1.toNatClampNeg) x5 := by have g := (hu a14 m_a14).2.2.2 (v1.toNatClampNeg); rw [k_a14] at g; rw [show x5 = _ from ex5]; exact g
        refine pasI (u' := pSI u a1 (v1.toNatClampNeg) x5) hx hb hK hP hD hS m_a1 (cF50 k_a1) 1 rfl (vp_in_iff.mpr (by (try simp only [i_lt, i_le, i_eq, Int32.toInt_toInt64, Int32.reduceToInt, Int64.reduceToInt, true_and, and_true, false_and, and_false, false_or, or_false, true_or, or_true, not_true_eq_false, not_false_eq_true, ne_eq, forall_const, true_implies, false_implies, implies_true] at g_v1 hn92 c1 tx5 ⊢) <;> omega)) rfl (sF50 k_a1 _ _) dX12_works_110 (fun H locs hP hD hS => ?_)
        have hu := WT.setI (a := a1) (s := (v1.toNatClampNeg)) (v := x5) hu (by rw [k_a1]; exact (show okW ((v1.toNatClampNeg)) x5 from by have y : (v1.toNatClampNeg) = (v1.toNatClampNeg) := (by have z1 := cl_int (x := v1) (by (try simp only [i_lt, i_le, i_eq, Int32.toInt_toInt64, Int32.reduceToInt, Int64.reduceToInt, true_and, and_true, false_and, and_false, false_or, or_false, true_or, or_true, not_true_eq_false, not_false_eq_true, ne_eq, forall_const, true_implies, false_implies, implies_true] at g_v1 hn92 c1 tx5 ⊢) <;> omega); have z2 := cl_int (x := v1) (by (try simp only [i_lt, i_le, i_eq, Int32.toInt_toInt64, Int32.reduceToInt, Int64.reduceToInt, true_and, and_true, false_and, and_false, false_or, or_false, true_or, or_true, not_true_eq_false, not_false_eq_true, ne_eq, forall_const, true_implies, false_implies, implies_true] at g_v1 hn92 c1 tx5 ⊢) <;> omega); (try simp only [i_lt, i_le, i_eq, Int32.toInt_toInt64, Int32.reduceToInt, Int64.reduceToInt, true_and, and_true, false_and, and_false, false_or, or_false, true_or, or_true, not_true_eq_false, not_false_eq_true, ne_eq, forall_const, true_implies, false_implies, implies_true] at g_v1 hn92 c1 tx5 z1 z2 ⊢) <;> omega); rw [y]; exact g6))
        have hp := PX.setI (a := a1) (s := (v1.toNatClampNeg)) (v := x5) hp (by rw [k_a1]; decide)
        obtain ⟨u7, hu7⟩ : ∃ z, z = pSI u a1 (v1.toNatClampNeg) x5 := ⟨_, rfl⟩
        rw [← hu7] at hP hD hu hp
        have w8 : (u7.2.2.1 a14 0).toInt = (u.2.2.1 a14 0).toInt := by rw [hu7]; exact congrArg Int32.toInt (if_neg (fun q => by have y := q.1; have z := k_a14; rw [y, k_a1] at z; exact absurd z (by decide)))
        have w9 : (u7.2.2.1 h0 12).toInt = (u.2.2.1 h0 12).toInt := by rw [hu7]; exact congrArg Int32.toInt (if_neg (fun q => by have y := q.1; have z := k_h0; rw [y, k_a1] at z; exact absurd z (by decide)))
        obtain ⟨x10, ex10⟩ : ∃ y : Int32, y = v1 + 1 := ⟨_, rfl⟩
        have tx10 : x10.toInt = v1.toInt + 1 := by rw [ex10]; exact i_add (b := 1) (by (try simp only [i_lt, i_le, i_eq, Int32.toInt_toInt64, Int32.reduceToInt, Int64.reduceToInt, true_and, and_true, false_and, and_false, false_or, or_false, true_or, or_true, not_true_eq_false, not_false_eq_true, ne_eq, forall_const, true_implies, false_implies, implies_true] at g_v1 hn92 c1 tx5 w8 w9 ⊢) <;> omega) (by (try simp only [i_lt, i_le, i_eq, Int32.toInt_toInt64, Int32.reduceToInt, Int64.reduceToInt, true_and, and_true, false_and, and_false, false_or, or_false, true_or, or_true, not_true_eq_false, not_false_eq_true, ne_eq, forall_const, true_implies, false_implies, implies_true] at g_v1 hn92 c1 tx5 w8 w9 ⊢) <;> omega)
        refine lv_iinc (v := x10) (lv' := [(1, .int x10), (0, .ref h0)]) hx hb dX12_works_111 hl (k := 1) rfl (by rw [ex10]; rfl) (by decide) rfl (fun ls hl => ?_)
        refine lv_goto (tgt := 92) hx hb dX12_works_114 (by decide) ?_
        exact ih92 _ _ _ ls x10 hu hp hP hD hS (by (try simp only [i_lt, i_le, i_eq, Int32.toInt_toInt64, Int32.reduceToInt, Int64.reduceToInt, true_and, and_true, false_and, and_false, false_or, or_false, true_or, or_true, not_true_eq_false, not_false_eq_true, ne_eq, forall_const, true_implies, false_implies, implies_true] at g_v1 hn92 c1 tx5 w8 w9 tx10 ⊢) <;> omega) (by (try simp only [i_lt, i_le, i_eq, Int32.toInt_toInt64, Int32.reduceToInt, Int64.reduceToInt, true_and, and_true, false_and, and_false, false_or, or_false, true_or, or_true, not_true_eq_false, not_false_eq_true, ne_eq, forall_const, true_implies, false_implies, implies_true] at g_v1 hn92 c1 tx5 w8 w9 tx10 ⊢) <;> omega) (lv_sub hl [1, 0] rfl)
  have B59 : ∀ (n59 : Nat) (u : PSt) (H : Heap) (locs : List Loc) (ls : Array Slot), WT u → PX u0 u → va_P D vwCl (PW k u) H → va_D A (PW k u) → va_S A s.heap H locs → (61 - (u.2.2.1 a14 0).toInt).toNat * 2 + (2 - min 1 (u.2.2.1 h0 12).toInt.natAbs) ≤ n59 → lv_has ls 2 [(0, .ref h0)] → W p l e (headSpec wpX12_works ({ frames := 10, cells := 0, slots := 0, locals := 219 })).room s m ([.ref h0] : List Value).toArray below meth c H locs 0 0 (MQ below (va_Qi (fun r v => WT v ∧ PX u0 v ∧ (True)) (WB D A (PW k)) A) ([.ref h0] : List Value).toArray s 0 0 A) (F0 m 59 ls []) := by
    intro n59
    induction n59 with
    | zero =>
      intro u H locs ls  hu hp hP hD hS hn59  hl
      exact absurd hn59 (by omega)
    | succ n59 ih59 =>
      intro u H locs ls  hu hp hP hD hS hn59  hl
      refine lv_aload_n hx hb dX12_works_59 rfl (lv_at hl 0 rfl) ?_
      have k_h0 : u.2.1 h0 = 12 := (hp h0 m0_h0).2.1.trans k0_h0
      have m_h0 : h0 ∈ u.1 := (hp h0 m0_h0).1
      have k_a14 : u.2.1 a14 = 51 := (hp a14 m0_a14).2.1.trans k0_a14
      have m_a14 : a14 ∈ u.1 := (hp a14 m0_a14).1
      refine rvi (C := RX12) (As := []) (rest := []) ⟨hx, hb, hml, hown, hts⟩ (t_X12_good l D k u hu h0 m_h0 k_h0 ) (cwV 0 hts gpX12_works_X12_good rfl rfl rfl (by decide +kernel) ⟨Nat.le_of_ble_eq_true rfl, Nat.le_of_ble_eq_true rfl⟩) hP hK (precv hK hP m_h0 (cF12 k_h0) rfl) rfl hl.1 rfl (Nat.le_of_ble_eq_true rfl) dX12_works_60 ⟨Nat.le_of_ble_eq_true rfl, Nat.le_of_ble_eq_true rfl⟩ (fun r11 hr11 => ?_)
      refine lv_if_eq (tgt := 80) hx hb dX12_works_63 (by decide) (fun c12 => ?_) (fun c12 => ?_)
      · have eb13 : r11.toInt = 0 := by rcases hr11 with ⟨q, -⟩ | ⟨q, -⟩; exact q; (exact absurd (c12) (fun w => by rw [w] at q; exact absurd q (by decide)))
        have fb13 : (u.2.2.1 h0 12).toInt ≠ 0 := by rcases hr11 with ⟨q, r⟩ | ⟨q, r⟩; exact r; exact absurd q (by omega)
        clear hr11
        refine lv_aload_n hx hb dX12_works_80 rfl (lv_at hl 0 rfl) ?_
        refine rvi (C := RX12) (As := []) (rest := []) ⟨hx, hb, hml, hown, hts⟩ (t_X12_good l D k u hu h0 m_h0 k_h0 ) (cwV 0 hts gpX12_works_X12_good rfl rfl rfl (by decide +kernel) ⟨Nat.le_of_ble_eq_true rfl, Nat.le_of_ble_eq_true rfl⟩) hP hK (precv hK hP m_h0 (cF12 k_h0) rfl) rfl hl.1 rfl (Nat.le_of_ble_eq_true rfl) dX12_works_81 ⟨Nat.le_of_ble_eq_true rfl, Nat.le_of_ble_eq_true rfl⟩ (fun r14 hr14 => ?_)
        refine lv_if_ne (tgt := 90) hx hb dX12_works_84 (by decide) (fun c15 => ?_) (fun c15 => ?_)
        · have eb16 : r14.toInt = 1 := by rcases hr14 with ⟨q, -⟩ | ⟨q, -⟩; exact absurd (i_eq.mpr q) c15; exact q
          have fb16 : (u.2.2.1 h0 12).toInt = 0 := by rcases hr14 with ⟨q, r⟩ | ⟨q, r⟩; exact absurd q (by omega); exact r
          clear hr14
          refine lv_iconst (v := 0) hx hb dX12_works_90 (by decide) ?_
          refine lv_istore_n (lv' := [(1, .int 0), (0, .ref h0)]) hx hb dX12_works_91 rfl hl (by decide) rfl (fun ls hl => ?_)
          exact B92 _ _ _ _ ls 0 hu hp hP hD hS (Nat.le_refl _) (by (try simp only [i_lt, i_le, i_eq, Int32.toInt_toInt64, Int32.reduceToInt, Int64.reduceToInt, true_and, and_true, false_and, and_false, false_or, or_false, true_or, or_true, not_true_eq_false, not_false_eq_true, ne_eq, forall_const, true_implies, false_implies, implies_true] at hn59 eb13 fb13 eb16 fb16 ⊢) <;> omega) (lv_sub hl [1, 0] rfl)
        · have eb17 : r14.toInt = 0 := by rcases hr14 with ⟨q, -⟩ | ⟨q, -⟩; exact q; (exact absurd (c15) (fun w => by rw [w] at q; exact absurd q (by decide)))
          have fb17 : (u.2.2.1 h0 12).toInt ≠ 0 := by rcases hr14 with ⟨q, r⟩ | ⟨q, r⟩; exact r; exact absurd q (by omega)
          clear hr14
          refine lv_bipush (v := (-4)) hx hb dX12_works_87 (by decide) ?_
          exact W.iret (v := (-4)) hx hb hr (fun t ht hW => ⟨⟨(-4), u, rfl, ⟨hu, hp, trivial⟩, by rw [ht]; exact hP, hD⟩, hS.F ht⟩) hS.2.2 dX12_works_89
      · have eb18 : r11.toInt = 1 := by rcases hr11 with ⟨q, -⟩ | ⟨q, -⟩; exact absurd (i_eq.mpr q) c12; exact q
        have fb18 : (u.2.2.1 h0 12).toInt = 0 := by rcases hr11 with ⟨q, r⟩ | ⟨q, r⟩; exact absurd q (by omega); exact r
        clear hr11
        refine lv_aload_n hx hb dX12_works_66 rfl (lv_at hl 0 rfl) ?_
        refine pget (ci := 12) (v := .int (u.2.2.1 h0 10)) (C := RX12) (T := TX12) (N := 34) hx hb hts i_X12 hown hK hP m_h0 (cF12 k_h0) rfl 10 (by decide) (hts (.fieldLink RX12 98 "BellowsRowModel" "token" "I") (by decide +kernel)) (fun _ h9 => h9) rfl dX12_works_67 ?_
        refine lv_if_eq (tgt := 80) hx hb dX12_works_70 (by decide) (fun c19 => ?_) (fun c19 => ?_)
        · refine lv_aload_n hx hb dX12_works_80 rfl (lv_at hl 0 rfl) ?_
          refine rvi (C := RX12) (As := []) (rest := []) ⟨hx, hb, hml, hown, hts⟩ (t_X12_good l D k u hu h0 m_h0 k_h0 ) (cwV 0 hts gpX12_works_X12_good rfl rfl rfl (by decide +kernel) ⟨Nat.le_of_ble_eq_true rfl, Nat.le_of_ble_eq_true rfl⟩) hP hK (precv hK hP m_h0 (cF12 k_h0) rfl) rfl hl.1 rfl (Nat.le_of_ble_eq_true rfl) dX12_works_81 ⟨Nat.le_of_ble_eq_true rfl, Nat.le_of_ble_eq_true rfl⟩ (fun r20 hr20 => ?_)
          refine lv_if_ne (tgt := 90) hx hb dX12_works_84 (by decide) (fun c21 => ?_) (fun c21 => ?_)
          · have eb22 : r20.toInt = 1 := by rcases hr20 with ⟨q, -⟩ | ⟨q, -⟩; exact absurd (i_eq.mpr q) c21; exact q
            have fb22 : (u.2.2.1 h0 12).toInt = 0 := by rcases hr20 with ⟨q, r⟩ | ⟨q, r⟩; exact absurd q (by omega); exact r
            clear hr20
            refine lv_iconst (v := 0) hx hb dX12_works_90 (by decide) ?_
            refine lv_istore_n (lv' := [(1, .int 0), (0, .ref h0)]) hx hb dX12_works_91 rfl hl (by decide) rfl (fun ls hl => ?_)
            exact B92 _ _ _ _ ls 0 hu hp hP hD hS (Nat.le_refl _) (by (try simp only [i_lt, i_le, i_eq, Int32.toInt_toInt64, Int32.reduceToInt, Int64.reduceToInt, true_and, and_true, false_and, and_false, false_or, or_false, true_or, or_true, not_true_eq_false, not_false_eq_true, ne_eq, forall_const, true_implies, false_implies, implies_true] at hn59 eb18 fb18 c19 eb22 fb22 ⊢) <;> omega) (lv_sub hl [1, 0] rfl)
          · have eb23 : r20.toInt = 0 := by rcases hr20 with ⟨q, -⟩ | ⟨q, -⟩; exact q; (exact absurd (c21) (fun w => by rw [w] at q; exact absurd q (by decide)))
            have fb23 : (u.2.2.1 h0 12).toInt ≠ 0 := by rcases hr20 with ⟨q, r⟩ | ⟨q, r⟩; exact r; exact absurd q (by omega)
            clear hr20
            refine lv_bipush (v := (-4)) hx hb dX12_works_87 (by decide) ?_
            exact W.iret (v := (-4)) hx hb hr (fun t ht hW => ⟨⟨(-4), u, rfl, ⟨hu, hp, trivial⟩, by rw [ht]; exact hP, hD⟩, hS.F ht⟩) hS.2.2 dX12_works_89
        · refine lv_aload_n hx hb dX12_works_73 rfl (lv_at hl 0 rfl) ?_
          refine xvV (C := RX12) (As := []) (rest := []) ⟨hx, hb, hml, hown, hts⟩ (fun sz => t_X12_readLine l D k tt u hu h0 m_h0 k_h0  sz) (cwV 0 hts gpX12_works_X12_readLine rfl rfl rfl (by decide +kernel) ⟨Nat.le_of_ble_eq_true rfl, Nat.le_of_ble_eq_true rfl⟩) hP hK hD hN hE hS hA (precv hK hP m_h0 (cF12 k_h0) rfl) rfl hl.1 rfl (Nat.le_of_ble_eq_true rfl) dX12_works_74 ⟨Nat.le_of_ble_eq_true rfl, Nat.le_of_ble_eq_true rfl⟩ (fun u25 H locs hqu25 hP hD hS => ?_)
          obtain ⟨hu, hxu25, hr24⟩ := hqu25
          simp only [ar_eq (((hp h0 m0_h0).2.2.2.2.2.1 k0_h0 14).trans q0_14)] at hr24
          have hp := PX.trans hp hxu25
          refine lv_goto (tgt := 59) hx hb dX12_works_77 (by decide) ?_
          exact ih59 _ _ _ ls hu hp hP hD hS (by (try simp only [i_lt, i_le, i_eq, Int32.toInt_toInt64, Int32.reduceToInt, Int64.reduceToInt, true_and, and_true, false_and, and_false, false_or, or_false, true_or, or_true, not_true_eq_false, not_false_eq_true, ne_eq, forall_const, true_implies, false_implies, implies_true] at hn59 eb18 fb18 c19 hr24 ⊢) <;> omega) (lv_sub hl [0] rfl)
  have B30 : ∀ (n30 : Nat) (u : PSt) (H : Heap) (locs : List Loc) (ls : Array Slot) (v1 : Int32), WT u → PX u0 u → va_P D vwCl (PW k u) H → va_D A (PW k u) → va_S A s.heap H locs → (2147483648 - v1.toInt).toNat ≤ n30 → 0 ≤ v1.toInt ∧ v1.toInt ≤ 2482 → lv_has ls 2 [(0, .ref h0), (1, .int v1)] → W p l e (headSpec wpX12_works ({ frames := 10, cells := 0, slots := 0, locals := 219 })).room s m ([.ref h0] : List Value).toArray below meth c H locs 0 0 (MQ below (va_Qi (fun r v => WT v ∧ PX u0 v ∧ (True)) (WB D A (PW k)) A) ([.ref h0] : List Value).toArray s 0 0 A) (F0 m 30 ls []) := by
    intro n30
    induction n30 with
    | zero =>
      intro u H locs ls v1 hu hp hP hD hS hn30 g_v1 hl
      exact absurd hn30 (by have := Int32.toInt_lt v1; have := Int32.le_toInt v1; omega)
    | succ n30 ih30 =>
      intro u H locs ls v1 hu hp hP hD hS hn30 g_v1 hl
      refine lv_iload_n hx hb dX12_works_30 rfl (lv_at hl 1 rfl) ?_
      refine lv_sipush (v := 2482) hx hb dX12_works_31 (by decide) ?_
      refine lv_icmp_ge (tgt := 50) hx hb dX12_works_34 (by decide) (fun c26 => ?_) (fun c26 => ?_)
      · refine lv_aload_n hx hb dX12_works_50 rfl (lv_at hl 0 rfl) ?_
        refine lv_iconst (v := 0) hx hb dX12_works_51 (by decide) ?_
        have k_h0 : u.2.1 h0 = 12 := (hp h0 m0_h0).2.1.trans k0_h0
        have m_h0 : h0 ∈ u.1 := (hp h0 m0_h0).1
        have k_a14 : u.2.1 a14 = 51 := (hp a14 m0_a14).2.1.trans k0_a14
        have m_a14 : a14 ∈ u.1 := (hp a14 m0_a14).1
        refine pput (u' := pSI u h0 15 0) (ci := 12) (v := .int 0) (ty := .boolean) (C := RX12) (T := TX12) (N := 34) hx hb hts i_X12 tyX12 tyX12_ok nmX12 hown hK hP hD hS m_h0 (cF12 k_h0) rfl 15 (by decide) (hts (.fieldLink RX12 251 "BellowsRowModel" "windTold" "Z") (by decide +kernel)) (fun _ h9 => h9) rfl (by decide +kernel) rfl rfl (Nat.le_of_ble_eq_true rfl) rfl (sF12_15 k_h0 0) dX12_works_52 (fun H locs hP hD hS => ?_)
        have hu := WT.setI (a := h0) (s := 15) (v := 0) hu (by rw [k_h0]; exact (show 0 ≤ (0 : Int32).toInt ∧ (0 : Int32).toInt ≤ 1 from by decide))
        have hp := PX.setI (a := h0) (s := 15) (v := 0) hp (by rw [k_h0]; decide)
        obtain ⟨u27, hu27⟩ : ∃ z, z = pSI u h0 15 0 := ⟨_, rfl⟩
        rw [← hu27] at hP hD hu hp
        have w28 : (u27.2.2.1 a14 0).toInt = (u.2.2.1 a14 0).toInt := by rw [hu27]; exact congrArg Int32.toInt (if_neg (fun q => by have y := q.1; have z := k_a14; rw [y, k_h0] at z; exact absurd z (by decide)))
        have w29 : (u27.2.2.1 h0 12).toInt = (u.2.2.1 h0 12).toInt := by rw [hu27]; exact congrArg Int32.toInt (if_neg (fun q => absurd q.2 (by decide)))
        refine lv_aload_n hx hb dX12_works_55 rfl (lv_at hl 0 rfl) ?_
        have k_h0 : u27.2.1 h0 = 12 := (hp h0 m0_h0).2.1.trans k0_h0
        have m_h0 : h0 ∈ u27.1 := (hp h0 m0_h0).1
        have k_a14 : u27.2.1 a14 = 51 := (hp a14 m0_a14).2.1.trans k0_a14
        have m_a14 : a14 ∈ u27.1 := (hp a14 m0_a14).1
        refine wvV (C := RX12) (As := []) (rest := []) ⟨hx, hb, hml, hown, hts⟩ (fun sz => t_X12_advance l D k u27 hu h0 m_h0 k_h0  sz) (cwV 0 hts gpX12_works_X12_advance rfl rfl rfl (by decide +kernel) ⟨Nat.le_of_ble_eq_true rfl, Nat.le_of_ble_eq_true rfl⟩) hP hK hD hN hS hA (precv hK hP m_h0 (cF12 k_h0) rfl) rfl hl.1 rfl (Nat.le_of_ble_eq_true rfl) dX12_works_56 ⟨Nat.le_of_ble_eq_true rfl, Nat.le_of_ble_eq_true rfl⟩ (fun u31 H locs hqu31 hP hD hS => ?_)
        obtain ⟨hu, hxu31, z32, hr30⟩ := hqu31
        have hp := PX.trans hp hxu31
        have w33 : (u31.2.2.1 a14 0).toInt = (u27.2.2.1 a14 0).toInt := congrArg Int32.toInt (z32 a14 m_a14 k_a14 0)
        exact B59 _ _ _ _ ls hu hp hP hD hS (Nat.le_refl _) (lv_sub hl [0] rfl)
      · refine lv_aload_n hx hb dX12_works_37 rfl (lv_at hl 0 rfl) ?_
        have k_h0 : u.2.1 h0 = 12 := (hp h0 m0_h0).2.1.trans k0_h0
        have m_h0 : h0 ∈ u.1 := (hp h0 m0_h0).1
        have k_a14 : u.2.1 a14 = 51 := (hp a14 m0_a14).2.1.trans k0_a14
        have m_a14 : a14 ∈ u.1 := (hp a14 m0_a14).1
        refine pget (ci := 12) (v := va_rf (u.2.2.2.2 h0 14)) (C := RX12) (T := TX12) (N := 34) hx hb hts i_X12 hown hK hP m_h0 (cF12 k_h0) rfl 14 (by decide) (hts (.fieldLink RX12 34 "BellowsRowModel" "fresh" "[I") (by decide +kernel)) (fun _ h9 => h9) rfl dX12_works_38 ?_
        refine W.eq (g2 := F0 m 41 ls [.ref a14]) (by rw [(((hp h0 m0_h0).2.2.2.2.2.1 k0_h0 14).trans q0_14)]; rfl) ?_
        refine lv_iload_n hx hb dX12_works_41 rfl (lv_at hl 1 rfl) ?_
        refine lv_iconst (v := 0) hx hb dX12_works_42 (by decide) ?_
        refine pasI (u' := pSI u a14 (v1.toNatClampNeg) 0) hx hb hK hP hD hS m_a14 (cF51 k_a14) 1 rfl (vp_in_iff.mpr (by (try simp only [i_lt, i_le, i_eq, Int32.toInt_toInt64, Int32.reduceToInt, Int64.reduceToInt, true_and, and_true, false_and, and_false, false_or, or_false, true_or, or_true, not_true_eq_false, not_false_eq_true, ne_eq, forall_const, true_implies, false_implies, implies_true] at g_v1 hn30 c26 ⊢) <;> omega)) rfl (sF51 k_a14 _ _) dX12_works_43 (fun H locs hP hD hS => ?_)
        have hu := WT.setI (a := a14) (s := (v1.toNatClampNeg)) (v := 0) hu (by rw [k_a14]; exact (show okW (v1.toNatClampNeg) (0 : Int32) from by unfold okW; have z := cl_int (x := v1) (by (try simp only [i_lt, i_le, i_eq, Int32.toInt_toInt64, Int32.reduceToInt, Int64.reduceToInt, true_and, and_true, false_and, and_false, false_or, or_false, true_or, or_true, not_true_eq_false, not_false_eq_true, ne_eq, forall_const, true_implies, false_implies, implies_true] at g_v1 hn30 c26 ⊢) <;> omega); (try simp only [i_lt, i_le, i_eq, Int32.toInt_toInt64, Int32.reduceToInt, Int64.reduceToInt, true_and, and_true, false_and, and_false, false_or, or_false, true_or, or_true, not_true_eq_false, not_false_eq_true, ne_eq, forall_const, true_implies, false_implies, implies_true] at g_v1 hn30 c26 z ⊢) <;> omega))
        have hp := PX.setI (a := a14) (s := (v1.toNatClampNeg)) (v := 0) hp (by rw [k_a14]; decide)
        obtain ⟨u34, hu34⟩ : ∃ z, z = pSI u a14 (v1.toNatClampNeg) 0 := ⟨_, rfl⟩
        rw [← hu34] at hP hD hu hp
        have w36 : (u34.2.2.1 h0 12).toInt = (u.2.2.1 h0 12).toInt := by rw [hu34]; exact congrArg Int32.toInt (if_neg (fun q => by have y := q.1; have z := k_h0; rw [y, k_a14] at z; exact absurd z (by decide)))
        obtain ⟨x37, ex37⟩ : ∃ y : Int32, y = v1 + 1 := ⟨_, rfl⟩
        have tx37 : x37.toInt = v1.toInt + 1 := by rw [ex37]; exact i_add (b := 1) (by (try simp only [i_lt, i_le, i_eq, Int32.toInt_toInt64, Int32.reduceToInt, Int64.reduceToInt, true_and, and_true, false_and, and_false, false_or, or_false, true_or, or_true, not_true_eq_false, not_false_eq_true, ne_eq, forall_const, true_implies, false_implies, implies_true] at g_v1 hn30 c26 w36 ⊢) <;> omega) (by (try simp only [i_lt, i_le, i_eq, Int32.toInt_toInt64, Int32.reduceToInt, Int64.reduceToInt, true_and, and_true, false_and, and_false, false_or, or_false, true_or, or_true, not_true_eq_false, not_false_eq_true, ne_eq, forall_const, true_implies, false_implies, implies_true] at g_v1 hn30 c26 w36 ⊢) <;> omega)
        refine lv_iinc (v := x37) (lv' := [(1, .int x37), (0, .ref h0)]) hx hb dX12_works_44 hl (k := 1) rfl (by rw [ex37]; rfl) (by decide) rfl (fun ls hl => ?_)
        refine lv_goto (tgt := 30) hx hb dX12_works_47 (by decide) ?_
        exact ih30 _ _ _ ls x37 hu hp hP hD hS (by (try simp only [i_lt, i_le, i_eq, Int32.toInt_toInt64, Int32.reduceToInt, Int64.reduceToInt, true_and, and_true, false_and, and_false, false_or, or_false, true_or, or_true, not_true_eq_false, not_false_eq_true, ne_eq, forall_const, true_implies, false_implies, implies_true] at g_v1 hn30 c26 w36 tx37 ⊢) <;> omega) (by (try simp only [i_lt, i_le, i_eq, Int32.toInt_toInt64, Int32.reduceToInt, Int64.reduceToInt, true_and, and_true, false_and, and_false, false_or, or_false, true_or, or_true, not_true_eq_false, not_false_eq_true, ne_eq, forall_const, true_implies, false_implies, implies_true] at g_v1 hn30 c26 w36 tx37 ⊢) <;> omega) (lv_sub hl [1, 0] rfl)
  have hl := lv_entry ([.ref h0]) (n := 2) (Nat.le_of_ble_eq_true rfl)
  rw [lg_entry_eq]
  generalize (lg_sl ([.ref h0]) ++ List.replicate (2 - (lg_sl ([.ref h0])).length) Slot.unset).toArray = ls at hl ⊢
  have hl : lv_has ls 2 [(0, .ref h0)] := hl
  refine lv_aload_n hx hb dX12_works_0 rfl (lv_at hl 0 rfl) ?_
  refine lv_aload_n hx hb dX12_works_1 rfl (lv_at hl 0 rfl) ?_
  refine pget (ci := 12) (v := .int (u0.2.2.1 h0 5)) (C := RX12) (T := TX12) (N := 34) hx hb hts i_X12 hown hK hP m_h0 (cF12 k_h0) rfl 5 (by decide) (hts (.fieldLink RX12 82 "BellowsRowModel" "taped" "I") (by decide +kernel)) (fun _ h9 => h9) rfl dX12_works_2 ?_
  have g38 := (hu h0 m_h0).2.2.2 5
  rw [k_h0] at g38
  replace g38 : 0 ≤ (u0.2.2.1 h0 5).toInt ∧ (u0.2.2.1 h0 5).toInt ≤ 1600 := g38
  refine pput (u' := pSI u0 h0 7 (u0.2.2.1 h0 5)) (ci := 12) (v := .int (u0.2.2.1 h0 5)) (ty := .int) (C := RX12) (T := TX12) (N := 34) hx hb hts i_X12 tyX12 tyX12_ok nmX12 hown hK hP hD hS m_h0 (cF12 k_h0) rfl 7 (by decide) (hts (.fieldLink RX12 85 "BellowsRowModel" "size" "I") (by decide +kernel)) (fun _ h9 => h9) rfl (by decide +kernel) rfl rfl (Nat.le_of_ble_eq_true rfl) rfl (sF12_7 k_h0 (u0.2.2.1 h0 5)) dX12_works_5 (fun H locs hP hD hS => ?_)
  have hu := WT.setI (a := h0) (s := 7) (v := (u0.2.2.1 h0 5)) hu (by rw [k_h0]; exact (show 0 ≤ (u0.2.2.1 h0 5).toInt ∧ (u0.2.2.1 h0 5).toInt ≤ 1600 from by (try simp only [i_lt, i_le, i_eq, Int32.toInt_toInt64, Int32.reduceToInt, Int64.reduceToInt, true_and, and_true, false_and, and_false, false_or, or_false, true_or, or_true, not_true_eq_false, not_false_eq_true, ne_eq, forall_const, true_implies, false_implies, implies_true] at g38 ⊢) <;> omega))
  have hp := PX.setI (a := h0) (s := 7) (v := (u0.2.2.1 h0 5)) hp (by rw [k_h0]; decide)
  obtain ⟨u39, hu39⟩ : ∃ z, z = pSI u0 h0 7 (u0.2.2.1 h0 5) := ⟨_, rfl⟩
  rw [← hu39] at hP hD hu hp
  have w40 : (u39.2.2.1 a14 0).toInt = (u0.2.2.1 a14 0).toInt := by rw [hu39]; exact congrArg Int32.toInt (if_neg (fun q => by have y := q.1; have z := k_a14; rw [y, k_h0] at z; exact absurd z (by decide)))
  have w41 : (u39.2.2.1 h0 12).toInt = (u0.2.2.1 h0 12).toInt := by rw [hu39]; exact congrArg Int32.toInt (if_neg (fun q => absurd q.2 (by decide)))
  have w42 : (u39.2.2.1 h0 5).toInt = (u0.2.2.1 h0 5).toInt := by rw [hu39]; exact congrArg Int32.toInt (if_neg (fun q => absurd q.2 (by decide)))
  refine lv_aload_n hx hb dX12_works_8 rfl (lv_at hl 0 rfl) ?_
  refine lv_iconst (v := 0) hx hb dX12_works_9 (by decide) ?_
  have k_h0 : u39.2.1 h0 = 12 := (hp h0 m0_h0).2.1.trans k0_h0
  have m_h0 : h0 ∈ u39.1 := (hp h0 m0_h0).1
  have k_a14 : u39.2.1 a14 = 51 := (hp a14 m0_a14).2.1.trans k0_a14
  have m_a14 : a14 ∈ u39.1 := (hp a14 m0_a14).1
  refine pput (u' := pSI u39 h0 5 0) (ci := 12) (v := .int 0) (ty := .int) (C := RX12) (T := TX12) (N := 34) hx hb hts i_X12 tyX12 tyX12_ok nmX12 hown hK hP hD hS m_h0 (cF12 k_h0) rfl 5 (by decide) (hts (.fieldLink RX12 82 "BellowsRowModel" "taped" "I") (by decide +kernel)) (fun _ h9 => h9) rfl (by decide +kernel) rfl rfl (Nat.le_of_ble_eq_true rfl) rfl (sF12_5 k_h0 0) dX12_works_10 (fun H locs hP hD hS => ?_)
  have hu := WT.setI (a := h0) (s := 5) (v := 0) hu (by rw [k_h0]; exact (show 0 ≤ (0 : Int32).toInt ∧ (0 : Int32).toInt ≤ 1600 from by decide))
  have hp := PX.setI (a := h0) (s := 5) (v := 0) hp (by rw [k_h0]; decide)
  obtain ⟨u43, hu43⟩ : ∃ z, z = pSI u39 h0 5 0 := ⟨_, rfl⟩
  rw [← hu43] at hP hD hu hp
  have w44 : (u43.2.2.1 a14 0).toInt = (u39.2.2.1 a14 0).toInt := by rw [hu43]; exact congrArg Int32.toInt (if_neg (fun q => by have y := q.1; have z := k_a14; rw [y, k_h0] at z; exact absurd z (by decide)))
  have w45 : (u43.2.2.1 h0 12).toInt = (u39.2.2.1 h0 12).toInt := by rw [hu43]; exact congrArg Int32.toInt (if_neg (fun q => absurd q.2 (by decide)))
  have w46 : (u43.2.2.1 h0 5).toInt = (0 : Int32).toInt := by rw [hu43]; exact congrArg Int32.toInt (if_pos ⟨rfl, rfl⟩)
  refine lv_aload_n hx hb dX12_works_13 rfl (lv_at hl 0 rfl) ?_
  refine lv_iconst (v := 0) hx hb dX12_works_14 (by decide) ?_
  have k_h0 : u43.2.1 h0 = 12 := (hp h0 m0_h0).2.1.trans k0_h0
  have m_h0 : h0 ∈ u43.1 := (hp h0 m0_h0).1
  have k_a14 : u43.2.1 a14 = 51 := (hp a14 m0_a14).2.1.trans k0_a14
  have m_a14 : a14 ∈ u43.1 := (hp a14 m0_a14).1
  refine pput (u' := pSI u43 h0 8 0) (ci := 12) (v := .int 0) (ty := .int) (C := RX12) (T := TX12) (N := 34) hx hb hts i_X12 tyX12 tyX12_ok nmX12 hown hK hP hD hS m_h0 (cF12 k_h0) rfl 8 (by decide) (hts (.fieldLink RX12 88 "BellowsRowModel" "at" "I") (by decide +kernel)) (fun _ h9 => h9) rfl (by decide +kernel) rfl rfl (Nat.le_of_ble_eq_true rfl) rfl (sF12_8 k_h0 0) dX12_works_15 (fun H locs hP hD hS => ?_)
  have hu := WT.setI (a := h0) (s := 8) (v := 0) hu (by rw [k_h0]; exact (show 0 ≤ (0 : Int32).toInt ∧ (0 : Int32).toInt ≤ 1600 from by decide))
  have hp := PX.setI (a := h0) (s := 8) (v := 0) hp (by rw [k_h0]; decide)
  obtain ⟨u47, hu47⟩ : ∃ z, z = pSI u43 h0 8 0 := ⟨_, rfl⟩
  rw [← hu47] at hP hD hu hp
  have w48 : (u47.2.2.1 a14 0).toInt = (u43.2.2.1 a14 0).toInt := by rw [hu47]; exact congrArg Int32.toInt (if_neg (fun q => by have y := q.1; have z := k_a14; rw [y, k_h0] at z; exact absurd z (by decide)))
  have w49 : (u47.2.2.1 h0 12).toInt = (u43.2.2.1 h0 12).toInt := by rw [hu47]; exact congrArg Int32.toInt (if_neg (fun q => absurd q.2 (by decide)))
  have w50 : (u47.2.2.1 h0 5).toInt = (u43.2.2.1 h0 5).toInt := by rw [hu47]; exact congrArg Int32.toInt (if_neg (fun q => absurd q.2 (by decide)))
  refine lv_aload_n hx hb dX12_works_18 rfl (lv_at hl 0 rfl) ?_
  refine lv_iconst (v := 0) hx hb dX12_works_19 (by decide) ?_
  have k_h0 : u47.2.1 h0 = 12 := (hp h0 m0_h0).2.1.trans k0_h0
  have m_h0 : h0 ∈ u47.1 := (hp h0 m0_h0).1
  have k_a14 : u47.2.1 a14 = 51 := (hp a14 m0_a14).2.1.trans k0_a14
  have m_a14 : a14 ∈ u47.1 := (hp a14 m0_a14).1
  refine pput (u' := pSI u47 h0 12 0) (ci := 12) (v := .int 0) (ty := .int) (C := RX12) (T := TX12) (N := 34) hx hb hts i_X12 tyX12 tyX12_ok nmX12 hown hK hP hD hS m_h0 (cF12 k_h0) rfl 12 (by decide) (hts (.fieldLink RX12 119 "BellowsRowModel" "faultKind" "I") (by decide +kernel)) (fun _ h9 => h9) rfl (by decide +kernel) rfl rfl (Nat.le_of_ble_eq_true rfl) rfl (sF12_12 k_h0 0) dX12_works_20 (fun H locs hP hD hS => ?_)
  have hu := WT.setI (a := h0) (s := 12) (v := 0) hu (by rw [k_h0]; exact trivial)
  have hp := PX.setI (a := h0) (s := 12) (v := 0) hp (by rw [k_h0]; decide)
  obtain ⟨u51, hu51⟩ : ∃ z, z = pSI u47 h0 12 0 := ⟨_, rfl⟩
  rw [← hu51] at hP hD hu hp
  have w52 : (u51.2.2.1 a14 0).toInt = (u47.2.2.1 a14 0).toInt := by rw [hu51]; exact congrArg Int32.toInt (if_neg (fun q => by have y := q.1; have z := k_a14; rw [y, k_h0] at z; exact absurd z (by decide)))
  have w53 : (u51.2.2.1 h0 12).toInt = (0 : Int32).toInt := by rw [hu51]; exact congrArg Int32.toInt (if_pos ⟨rfl, rfl⟩)
  have w54 : (u51.2.2.1 h0 5).toInt = (u47.2.2.1 h0 5).toInt := by rw [hu51]; exact congrArg Int32.toInt (if_neg (fun q => absurd q.2 (by decide)))
  refine lv_aload_n hx hb dX12_works_23 rfl (lv_at hl 0 rfl) ?_
  refine lv_iconst (v := (-1)) hx hb dX12_works_24 (by decide) ?_
  have k_h0 : u51.2.1 h0 = 12 := (hp h0 m0_h0).2.1.trans k0_h0
  have m_h0 : h0 ∈ u51.1 := (hp h0 m0_h0).1
  have k_a14 : u51.2.1 a14 = 51 := (hp a14 m0_a14).2.1.trans k0_a14
  have m_a14 : a14 ∈ u51.1 := (hp a14 m0_a14).1
  refine pput (u' := pSI u51 h0 13 (-1)) (ci := 12) (v := .int (-1)) (ty := .int) (C := RX12) (T := TX12) (N := 34) hx hb hts i_X12 tyX12 tyX12_ok nmX12 hown hK hP hD hS m_h0 (cF12 k_h0) rfl 13 (by decide) (hts (.fieldLink RX12 31 "BellowsRowModel" "faultPlace" "I") (by decide +kernel)) (fun _ h9 => h9) rfl (by decide +kernel) rfl rfl (Nat.le_of_ble_eq_true rfl) rfl (sF12_13 k_h0 (-1)) dX12_works_25 (fun H locs hP hD hS => ?_)
  have hu := WT.setI (a := h0) (s := 13) (v := (-1)) hu (by rw [k_h0]; exact trivial)
  have hp := PX.setI (a := h0) (s := 13) (v := (-1)) hp (by rw [k_h0]; decide)
  obtain ⟨u55, hu55⟩ : ∃ z, z = pSI u51 h0 13 (-1) := ⟨_, rfl⟩
  rw [← hu55] at hP hD hu hp
  have w56 : (u55.2.2.1 a14 0).toInt = (u51.2.2.1 a14 0).toInt := by rw [hu55]; exact congrArg Int32.toInt (if_neg (fun q => by have y := q.1; have z := k_a14; rw [y, k_h0] at z; exact absurd z (by decide)))
  have w57 : (u55.2.2.1 h0 12).toInt = (u51.2.2.1 h0 12).toInt := by rw [hu55]; exact congrArg Int32.toInt (if_neg (fun q => absurd q.2 (by decide)))
  have w58 : (u55.2.2.1 h0 5).toInt = (u51.2.2.1 h0 5).toInt := by rw [hu55]; exact congrArg Int32.toInt (if_neg (fun q => absurd q.2 (by decide)))
  refine lv_iconst (v := 0) hx hb dX12_works_28 (by decide) ?_
  refine lv_istore_n (lv' := [(1, .int 0), (0, .ref h0)]) hx hb dX12_works_29 rfl hl (by decide) rfl (fun ls hl => ?_)
  exact B30 _ _ _ _ ls 0 hu hp hP hD hS (Nat.le_refl _) (by (try simp only [i_lt, i_le, i_eq, Int32.toInt_toInt64, Int32.reduceToInt, Int64.reduceToInt, true_and, and_true, false_and, and_false, false_or, or_false, true_or, or_true, not_true_eq_false, not_false_eq_true, ne_eq, forall_const, true_implies, false_implies, implies_true] at g38 w40 w41 w42 w44 w45 w46 w48 w49 w50 w52 w53 w54 w56 w57 w58 ⊢) <;> omega) (lv_sub hl [1, 0] rfl)
