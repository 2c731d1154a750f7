set_option maxHeartbeats 4000000 in
set_option maxRecDepth 100000 in
theorem t_X12_next (l : Launch) (D : va_G) (k : Nat → ClassId) (u0 : PSt) (hu : WT u0) (h0 : Nat) (m_h0 : h0 ∈ u0.1) (k_h0 : u0.2.1 h0 = 12) (p1 : Int32) (p2 : Int32) (sz : Nat) : Met l yX12_next wsX12_next ({ frames := 9, cells := 0, slots := 0, locals := 217 }) (PreM D k sz (PW k u0) [.ref h0, .int p1, .int p2]) (va_Qi (fun r v => WT v ∧ PX u0 v ∧ (True)) (WB D (va_A (PW k u0) sz) (PW k)) (va_A (PW k u0) sz)) 0 0 (va_A (PW k u0) sz) := by
  refine Met.ofW (cc := cX12_next) (maxL := 3) (ret := (some .int)) (by decide) rfl ?_
  intro p e s m args below meth c s₁ B hml hv
  obtain ⟨rfl, hsz, hP, hK, hD0, hN⟩ := hv
  have hx := B.exec
  have hb := B.bytes
  have hr := B.returns
  have hts := atoms_spec (ws := wsX12_next) B.pre
  have hown : s.vm.findClass RX12 = some m.cls := findClass_of_methodNamed B.named
  have hlocks := B.notSynchronized
  have m0_h0 := m_h0
  have k0_h0 := k_h0
  subst hsz
  have hD := hD0.self (sz := s.heap.size)
  generalize hAe : va_A (PW k u0) s.heap.size = A at hD ⊢
  have hA : ∀ q : Nat, s.heap.size ≤ q → A q := fun q h => by rw [← hAe]; exact Or.inr h
  have hS : va_S A s.heap s.heap [] := va_S.rf
  have hp : PX u0 u0 := PX.rf
  have hl := lv_entry ([.ref h0, .int p1, .int p2]) (n := 3) (Nat.le_of_ble_eq_true rfl)
  rw [lg_entry_eq]
  generalize (lg_sl ([.ref h0, .int p1, .int p2]) ++ List.replicate (3 - (lg_sl ([.ref h0, .int p1, .int p2])).length) Slot.unset).toArray = ls at hl ⊢
  have hl : lv_has ls 3 [(0, .ref h0), (1, .int p1), (2, .int p2)] := hl
  refine lv_aload_n hx hb dX12_next_0 rfl (lv_at hl 0 rfl) ?_
  refine lv_iload_n hx hb dX12_next_1 rfl (lv_at hl 1 rfl) ?_
  refine rvi (C := RX12) (As := [.int p1]) (rest := []) ⟨hx, hb, hml, hown, hts⟩ (t_X12_isPipe l D k u0 hu h0 m_h0 k_h0 p1) (cwV 1 hts gX12_next_X12_isPipe rfl rfl rfl (by decide +kernel) ⟨Nat.le_of_ble_eq_true rfl, Nat.le_of_ble_eq_true rfl⟩) hP hK (precv hK hP m_h0 (cF12 k_h0) rfl) rfl hl.1 rfl (Nat.le_of_ble_eq_true rfl) dX12_next_2 ⟨Nat.le_of_ble_eq_true rfl, Nat.le_of_ble_eq_true rfl⟩ (fun r1 hr1 => ?_)
  refine lv_if_ne (tgt := 28) hx hb dX12_next_5 (by decide) (fun c2 => ?_) (fun c2 => ?_)
  · have eb3 : r1.toInt = 1 := by rcases hr1 with q | ⟨q, -⟩; exact absurd (i_eq.mpr q) c2; exact q
    have fb3 : 0 ≤ p1.toInt ∧ p1.toInt ≤ 11 := by rcases hr1 with q | ⟨q, r⟩; exact absurd q (by omega); exact r
    clear hr1
    refine lv_aload_n hx hb dX12_next_28 rfl (lv_at hl 0 rfl) ?_
    refine lv_iload_n hx hb dX12_next_29 rfl (lv_at hl 1 rfl) ?_
    refine lv_iload_n hx hb dX12_next_30 rfl (lv_at hl 2 rfl) ?_
    refine wiV (C := RX12) (As := [.int p1, .int p2]) (rest := []) ⟨hx, hb, hml, hown, hts⟩ (fun sz => t_X12_firstBut l D k u0 hu h0 m_h0 k_h0 p1 p2 sz) (cwV 2 hts gX12_next_X12_firstBut rfl rfl rfl (by decide +kernel) ⟨Nat.le_of_ble_eq_true rfl, Nat.le_of_ble_eq_true rfl⟩) hP hK hD hN hS hA (precv hK hP m_h0 (cF12 k_h0) rfl) rfl hl.1 rfl (Nat.le_of_ble_eq_true rfl) dX12_next_31 ⟨Nat.le_of_ble_eq_true rfl, Nat.le_of_ble_eq_true rfl⟩ (fun r4 u5 H locs hqu5 hP hD hS => ?_)
    obtain ⟨hu, hxu5, hr4⟩ := hqu5
    have hp := PX.trans hp hxu5
    exact W.iret (v := r4) hx hb hr (fun t ht hW => ⟨⟨r4, u5, rfl, ⟨hu, hp, trivial⟩, by rw [ht]; exact hP, hD⟩, hS.F ht⟩) hS.2.2 dX12_next_34
  · have eb6 : r1.toInt = 0 := by rcases hr1 with q | ⟨q, -⟩; exact q; (exact absurd (c2) (fun w => by rw [w] at q; exact absurd q (by decide)))
    clear hr1
    refine lv_iload_n hx hb dX12_next_8 rfl (lv_at hl 1 rfl) ?_
    refine lv_bipush (v := 100) hx hb dX12_next_9 (by decide) ?_
    refine lv_icmp_lt (tgt := 25) hx hb dX12_next_11 (by decide) (fun c7 => ?_) (fun c7 => ?_)
    · refine lv_bipush (v := (-2)) hx hb dX12_next_25 (by decide) ?_
      exact W.iret (v := (-2)) hx hb hr (fun t ht hW => ⟨⟨(-2), u0, rfl, ⟨hu, hp, trivial⟩, by rw [ht]; exact hP, hD⟩, hS.F ht⟩) hS.2.2 dX12_next_27
    · refine lv_aload_n hx hb dX12_next_14 rfl (lv_at hl 0 rfl) ?_
      refine lv_iload_n hx hb dX12_next_15 rfl (lv_at hl 1 rfl) ?_
      refine lv_bipush (v := 100) hx hb dX12_next_16 (by decide) ?_
      refine lv_isub hx hb dX12_next_18 ?_
      have b8 := Int32.toInt_lt p1
      have ab8 := Int32.le_toInt p1
      refine lv_topi (fun x9 ex9 => ?_)
      have tx9 : x9.toInt = p1.toInt - (100 : Int32).toInt := by rw [ex9]; exact i_sub (by (try simp only [i_lt, i_le, i_eq, Int32.toInt_toInt64, Int32.reduceToInt, Int64.reduceToInt, true_and, and_true, false_and, and_false, false_or, or_false, true_or, or_true, not_true_eq_false, not_false_eq_true, ne_eq, forall_const, true_implies, false_implies, implies_true] at eb6 c7 b8 ab8 ⊢) <;> omega) (by (try simp only [i_lt, i_le, i_eq, Int32.toInt_toInt64, Int32.reduceToInt, Int64.reduceToInt, true_and, and_true, false_and, and_false, false_or, or_false, true_or, or_true, not_true_eq_false, not_false_eq_true, ne_eq, forall_const, true_implies, false_implies, implies_true] at eb6 c7 b8 ab8 ⊢) <;> omega)
      refine rvi (C := RX12) (As := [.int x9]) (rest := []) ⟨hx, hb, hml, hown, hts⟩ (t_X12_isPot l D k u0 hu h0 m_h0 k_h0 x9) (cwV 1 hts gX12_next_X12_isPot rfl rfl rfl (by decide +kernel) ⟨Nat.le_of_ble_eq_true rfl, Nat.le_of_ble_eq_true rfl⟩) hP hK (precv hK hP m_h0 (cF12 k_h0) rfl) rfl hl.1 rfl (Nat.le_of_ble_eq_true rfl) dX12_next_19 ⟨Nat.le_of_ble_eq_true rfl, Nat.le_of_ble_eq_true rfl⟩ (fun r10 hr10 => ?_)
      refine lv_if_ne (tgt := 28) hx hb dX12_next_22 (by decide) (fun c11 => ?_) (fun c11 => ?_)
      · have eb12 : r10.toInt = 1 := by rcases hr10 with q | ⟨q, -⟩; exact absurd (i_eq.mpr q) c11; exact q
        have fb12 : 0 ≤ x9.toInt ∧ x9.toInt ≤ 7 := by rcases hr10 with q | ⟨q, r⟩; exact absurd q (by omega); exact r
        clear hr10
        refine lv_aload_n hx hb dX12_next_28 rfl (lv_at hl 0 rfl) ?_
        refine lv_iload_n hx hb dX12_next_29 rfl (lv_at hl 1 rfl) ?_
        refine lv_iload_n hx hb dX12_next_30 rfl (lv_at hl 2 rfl) ?_
        refine wiV (C := RX12) (As := [.int p1, .int p2]) (rest := []) ⟨hx, hb, hml, hown, hts⟩ (fun sz => t_X12_firstBut l D k u0 hu h0 m_h0 k_h0 p1 p2 sz) (cwV 2 hts gX12_next_X12_firstBut rfl rfl rfl (by decide +kernel) ⟨Nat.le_of_ble_eq_true rfl, Nat.le_of_ble_eq_true rfl⟩) hP hK hD hN hS hA (precv hK hP m_h0 (cF12 k_h0) rfl) rfl hl.1 rfl (Nat.le_of_ble_eq_true rfl) dX12_next_31 ⟨Nat.le_of_ble_eq_true rfl, Nat.le_of_ble_eq_true rfl⟩ (fun r13 u14 H locs hqu14 hP hD hS => ?_)
        obtain ⟨hu, hxu14, hr13⟩ := hqu14
        have hp := PX.trans hp hxu14
        exact W.iret (v := r13) hx hb hr (fun t ht hW => ⟨⟨r13, u14, rfl, ⟨hu, hp, trivial⟩, by rw [ht]; exact hP, hD⟩, hS.F ht⟩) hS.2.2 dX12_next_34
      · have eb15 : r10.toInt = 0 := by rcases hr10 with q | ⟨q, -⟩; exact q; (exact absurd (c11) (fun w => by rw [w] at q; exact absurd q (by decide)))
        clear hr10
        refine lv_bipush (v := (-2)) hx hb dX12_next_25 (by decide) ?_
        exact W.iret (v := (-2)) hx hb hr (fun t ht hW => ⟨⟨(-2), u0, rfl, ⟨hu, hp, trivial⟩, by rw [ht]; exact hP, hD⟩, hS.F ht⟩) hS.2.2 dX12_next_27
set_option maxHeartbeats 4000000 in
set_option maxRecDepth 100000 in
theorem t_X12_first (l : Launch) (D : va_G) (k : Nat → ClassId) (u0 : PSt) (hu : WT u0) (h0 : Nat) (m_h0 : h0 ∈ u0.1) (k_h0 : u0.2.1 h0 = 12) (p1 : Int32) (sz : Nat) : Met l yX12_first wsX12_first ({ frames := 9, cells := 0, slots := 0, locals := 217 }) (PreM D k sz (PW k u0) [.ref h0, .int p1]) (va_Qi (fun r v => WT v ∧ PX u0 v ∧ (True)) (WB D (va_A (PW k u0) sz) (PW k)) (va_A (PW k u0) sz)) 0 0 (va_A (PW k u0) sz) := by
  refine Met.ofW (cc := cX12_first) (maxL := 2) (ret := (some .int)) (by decide) rfl ?_
  intro p e s m args below meth c s₁ B hml hv
  obtain ⟨rfl, hsz, hP, hK, hD0, hN⟩ := hv
  have hx := B.exec
  have hb := B.bytes
  have hr := B.returns
  have hts := atoms_spec (ws := wsX12_first) B.pre
  have hown : s.vm.findClass RX12 = some m.cls := findClass_of_methodNamed B.named
  have hlocks := B.notSynchronized
  have m0_h0 := m_h0
  have k0_h0 := k_h0
  subst hsz
  have hD := hD0.self (sz := s.heap.size)
  generalize hAe : va_A (PW k u0) s.heap.size = A at hD ⊢
  have hA : ∀ q : Nat, s.heap.size ≤ q → A q := fun q h => by rw [← hAe]; exact Or.inr h
  have hS : va_S A s.heap s.heap [] := va_S.rf
  have hp : PX u0 u0 := PX.rf
  have hl := lv_entry ([.ref h0, .int p1]) (n := 2) (Nat.le_of_ble_eq_true rfl)
  rw [lg_entry_eq]
  generalize (lg_sl ([.ref h0, .int p1]) ++ List.replicate (2 - (lg_sl ([.ref h0, .int p1])).length) Slot.unset).toArray = ls at hl ⊢
  have hl : lv_has ls 2 [(0, .ref h0), (1, .int p1)] := hl
  refine lv_aload_n hx hb dX12_first_0 rfl (lv_at hl 0 rfl) ?_
  refine lv_iconst (v := (-1)) hx hb dX12_first_1 (by decide) ?_
  refine lv_iload_n hx hb dX12_first_2 rfl (lv_at hl 1 rfl) ?_
  refine wiV (C := RX12) (As := [.int (-1), .int p1]) (rest := []) ⟨hx, hb, hml, hown, hts⟩ (fun sz => t_X12_firstBut l D k u0 hu h0 m_h0 k_h0 (-1) p1 sz) (cwV 2 hts gX12_first_X12_firstBut rfl rfl rfl (by decide +kernel) ⟨Nat.le_of_ble_eq_true rfl, Nat.le_of_ble_eq_true rfl⟩) hP hK hD hN hS hA (precv hK hP m_h0 (cF12 k_h0) rfl) rfl hl.1 rfl (Nat.le_of_ble_eq_true rfl) dX12_first_3 ⟨Nat.le_of_ble_eq_true rfl, Nat.le_of_ble_eq_true rfl⟩ (fun r1 u2 H locs hqu2 hP hD hS => ?_)
  obtain ⟨hu, hxu2, hr1⟩ := hqu2
  have hp := PX.trans hp hxu2
  exact W.iret (v := r1) hx hb hr (fun t ht hW => ⟨⟨r1, u2, rfl, ⟨hu, hp, trivial⟩, by rw [ht]; exact hP, hD⟩, hS.F ht⟩) hS.2.2 dX12_first_6
