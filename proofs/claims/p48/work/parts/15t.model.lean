set_option maxHeartbeats 4000000 in
set_option maxRecDepth 100000 in
theorem t_X12_goesWith (l : Launch) (D : va_G) (k : Nat → ClassId) (u0 : PSt) (hu : WT u0) (h0 : Nat) (m_h0 : h0 ∈ u0.1) (k_h0 : u0.2.1 h0 = 12) (p1 : Int32) (p2 : Int32) (p3 : Int32) (g_p1 : 0 ≤ p1.toInt ∧ p1.toInt ≤ 11) (g_p2 : 2 ≤ p2.toInt ∧ p2.toInt ≤ 6) (hpre : (p2.toInt = 2 ∧ 0 ≤ p3.toInt ∧ p3.toInt ≤ 40) ∨ p2.toInt = 6) (sz : Nat) : Met l yX12_goesWith wsX12_goesWith ({ frames := 8, cells := 0, slots := 0, locals := 191 }) (PreM D k sz (PW k u0) [.ref h0, .int p1, .int p2, .int p3]) (va_Qi (fun r v => WT v ∧ PX u0 v ∧ (True)) (WB D (va_A (PW k u0) sz) (PW k)) (va_A (PW k u0) sz)) 0 0 (va_A (PW k u0) sz) := by
  refine Met.ofW (cc := cX12_goesWith) (maxL := 6) (ret := (some .int)) (by decide) rfl ?_
  intro p e s m args below meth c s₁ B hml hv
  obtain ⟨rfl, hsz, hP, hK, hD0, hN⟩ := hv
  have hx := B.exec
  have hb := B.bytes
  have hr := B.returns
  have hts := atoms_spec (ws := wsX12_goesWith) B.pre
  have hown : s.vm.findClass RX12 = some m.cls := findClass_of_methodNamed B.named
  have hlocks := B.notSynchronized
  have i_X12 : ∀ w ∈ wsX120, w ∈ wsX12_goesWith := by decide +kernel
  obtain ⟨a1, q0_1, m0_a1, k0_a1⟩ := (hu h0 m_h0).1 1 50 (by rw [k_h0]; rfl)
  have m0_h0 := m_h0
  have k0_h0 := k_h0
  have m_a1 := m0_a1
  have k_a1 := k0_a1
  subst hsz
  have hD := hD0.self (sz := s.heap.size)
  generalize hAe : va_A (PW k u0) s.heap.size = A at hD ⊢
  have hA : ∀ q : Nat, s.heap.size ≤ q → A q := fun q h => by rw [← hAe]; exact Or.inr h
  have hS : va_S A s.heap s.heap [] := va_S.rf
  have hp : PX u0 u0 := PX.rf
  have hl := lv_entry ([.ref h0, .int p1, .int p2, .int p3]) (n := 6) (Nat.le_of_ble_eq_true rfl)
  rw [lg_entry_eq]
  generalize (lg_sl ([.ref h0, .int p1, .int p2, .int p3]) ++ List.replicate (6 - (lg_sl ([.ref h0, .int p1, .int p2, .int p3])).length) Slot.unset).toArray = ls at hl ⊢
  have hl : lv_has ls 6 [(0, .ref h0), (1, .int p1), (2, .int p2), (3, .int p3)] := hl
  refine lv_aload_n hx hb dX12_goesWith_0 rfl (lv_at hl 0 rfl) ?_
  refine lv_iload_n hx hb dX12_goesWith_1 rfl (lv_at hl 1 rfl) ?_
  refine lv_iload_n hx hb dX12_goesWith_2 rfl (lv_at hl 2 rfl) ?_
  refine rvi (C := RX12) (As := [.int p1, .int p2]) (rest := []) ⟨hx, hb, hml, hown, hts⟩ (t_X12_ofPipe l D k u0 hu h0 m_h0 k_h0 p1 p2 (by (try simp only [i_lt, i_le, i_eq, Int32.toInt_toInt64, Int32.reduceToInt, Int64.reduceToInt, true_and, and_true, false_and, and_false, false_or, or_false, true_or, or_true, not_true_eq_false, not_false_eq_true, ne_eq, forall_const, true_implies, false_implies, implies_true] at g_p1 g_p2 hpre ⊢) <;> omega) (by (try simp only [i_lt, i_le, i_eq, Int32.toInt_toInt64, Int32.reduceToInt, Int64.reduceToInt, true_and, and_true, false_and, and_false, false_or, or_false, true_or, or_true, not_true_eq_false, not_false_eq_true, ne_eq, forall_const, true_implies, false_implies, implies_true] at g_p1 g_p2 hpre ⊢) <;> omega)) (cwV 2 hts gX12_goesWith_X12_ofPipe rfl rfl rfl (by decide +kernel) ⟨Nat.le_of_ble_eq_true rfl, Nat.le_of_ble_eq_true rfl⟩) hP hK (precv hK hP m_h0 (cF12 k_h0) rfl) rfl hl.1 rfl (Nat.le_of_ble_eq_true rfl) dX12_goesWith_3 ⟨Nat.le_of_ble_eq_true rfl, Nat.le_of_ble_eq_true rfl⟩ (fun r1 hr1 => ?_)
  replace hr1 := hr1.1
  refine lv_istore (lv' := [(4, .int r1), (0, .ref h0), (1, .int p1), (2, .int p2), (3, .int p3)]) hx hb dX12_goesWith_6 hl (by decide) rfl (fun ls hl => ?_)
  refine lv_aload_n hx hb dX12_goesWith_8 rfl (lv_at hl 1 rfl) ?_
  refine pget (ci := 12) (v := va_rf (u0.2.2.2.2 h0 1)) (C := RX12) (T := TX12) (N := 34) hx hb hts i_X12 hown hK hP m_h0 (cF12 k_h0) rfl 1 (by decide) (hts (.fieldLink RX12 13 "BellowsRowModel" "world" "[I") (by decide +kernel)) (fun _ h9 => h9) rfl dX12_goesWith_9 ?_
  refine W.eq (g2 := F0 m 12 ls [.ref a1]) (by rw [(((hp h0 m0_h0).2.2.2.2.2.1 k0_h0 1).trans q0_1)]; rfl) ?_
  refine lv_bipush (v := 26) hx hb dX12_goesWith_12 (by decide) ?_
  refine lv_bipush (v := 24) hx hb dX12_goesWith_14 (by decide) ?_
  refine lv_iload_n hx hb dX12_goesWith_16 rfl (lv_at hl 2 rfl) ?_
  refine lv_imul hx hb dX12_goesWith_17 ?_
  refine lv_topi (fun x2 ex2 => ?_)
  have tx2 : x2.toInt = 24 * p1.toInt := by rw [ex2]; exact i_mulc (c := 24) (by decide) ((show 0 ≤ p1.toInt ∧ p1.toInt ≤ 11 from by (try simp only [i_lt, i_le, i_eq, Int32.toInt_toInt64, Int32.reduceToInt, Int64.reduceToInt, true_and, and_true, false_and, and_false, false_or, or_false, true_or, or_true, not_true_eq_false, not_false_eq_true, ne_eq, forall_const, true_implies, false_implies, implies_true] at g_p1 g_p2 hpre hr1 ⊢) <;> omega)) (by decide)
  refine lv_iadd hx hb dX12_goesWith_18 ?_
  refine lv_topi (fun x3 ex3 => ?_)
  have tx3 : x3.toInt = (26 : Int32).toInt + x2.toInt := by rw [ex3]; exact i_add (by (try simp only [i_lt, i_le, i_eq, Int32.toInt_toInt64, Int32.reduceToInt, Int64.reduceToInt, true_and, and_true, false_and, and_false, false_or, or_false, true_or, or_true, not_true_eq_false, not_false_eq_true, ne_eq, forall_const, true_implies, false_implies, implies_true] at g_p1 g_p2 hpre hr1 tx2 ⊢) <;> omega) (by (try simp only [i_lt, i_le, i_eq, Int32.toInt_toInt64, Int32.reduceToInt, Int64.reduceToInt, true_and, and_true, false_and, and_false, false_or, or_false, true_or, or_true, not_true_eq_false, not_false_eq_true, ne_eq, forall_const, true_implies, false_implies, implies_true] at g_p1 g_p2 hpre hr1 tx2 ⊢) <;> omega)
  refine lv_iload_n hx hb dX12_goesWith_19 rfl (lv_at hl 3 rfl) ?_
  refine lv_iadd hx hb dX12_goesWith_20 ?_
  refine lv_topi (fun x4 ex4 => ?_)
  have tx4 : x4.toInt = x3.toInt + p2.toInt := by rw [ex4]; exact i_add (by (try simp only [i_lt, i_le, i_eq, Int32.toInt_toInt64, Int32.reduceToInt, Int64.reduceToInt, true_and, and_true, false_and, and_false, false_or, or_false, true_or, or_true, not_true_eq_false, not_false_eq_true, ne_eq, forall_const, true_implies, false_implies, implies_true] at g_p1 g_p2 hpre hr1 tx2 tx3 ⊢) <;> omega) (by (try simp only [i_lt, i_le, i_eq, Int32.toInt_toInt64, Int32.reduceToInt, Int64.reduceToInt, true_and, and_true, false_and, and_false, false_or, or_false, true_or, or_true, not_true_eq_false, not_false_eq_true, ne_eq, forall_const, true_implies, false_implies, implies_true] at g_p1 g_p2 hpre hr1 tx2 tx3 ⊢) <;> omega)
  refine lv_iload_n hx hb dX12_goesWith_21 rfl (lv_at hl 4 rfl) ?_
  refine pasI (u' := pSI u0 a1 (x4.toNatClampNeg) p3) hx hb hK hP hD hS m_a1 (cF50 k_a1) 1 rfl (vp_in_iff.mpr (by (try simp only [i_lt, i_le, i_eq, Int32.toInt_toInt64, Int32.reduceToInt, Int64.reduceToInt, true_and, and_true, false_and, and_false, false_or, or_false, true_or, or_true, not_true_eq_false, not_false_eq_true, ne_eq, forall_const, true_implies, false_implies, implies_true] at g_p1 g_p2 hpre hr1 tx2 tx3 tx4 ⊢) <;> omega)) rfl (sF50 k_a1 _ _) dX12_goesWith_22 (fun H locs hP hD hS => ?_)
  have hu := WT.setI (a := a1) (s := (x4.toNatClampNeg)) (v := p3) hu (by rw [k_a1]; exact (show okW (x4.toNatClampNeg) p3 from by unfold okW; have z := cl_int (x := x4) (by (try simp only [i_lt, i_le, i_eq, Int32.toInt_toInt64, Int32.reduceToInt, Int64.reduceToInt, true_and, and_true, false_and, and_false, false_or, or_false, true_or, or_true, not_true_eq_false, not_false_eq_true, ne_eq, forall_const, true_implies, false_implies, implies_true] at g_p1 g_p2 hpre hr1 tx2 tx3 tx4 ⊢) <;> omega); (try simp only [i_lt, i_le, i_eq, Int32.toInt_toInt64, Int32.reduceToInt, Int64.reduceToInt, true_and, and_true, false_and, and_false, false_or, or_false, true_or, or_true, not_true_eq_false, not_false_eq_true, ne_eq, forall_const, true_implies, false_implies, implies_true] at g_p1 g_p2 hpre hr1 tx2 tx3 tx4 z ⊢) <;> omega))
  have hp := PX.setI (a := a1) (s := (x4.toNatClampNeg)) (v := p3) hp (by rw [k_a1]; decide)
  obtain ⟨u5, hu5⟩ : ∃ z, z = pSI u0 a1 (x4.toNatClampNeg) p3 := ⟨_, rfl⟩
  rw [← hu5] at hP hD hu hp
  refine lv_aload_n hx hb dX12_goesWith_23 rfl (lv_at hl 1 rfl) ?_
  refine lv_iload_n hx hb dX12_goesWith_24 rfl (lv_at hl 2 rfl) ?_
  have k_h0 : u5.2.1 h0 = 12 := (hp h0 m0_h0).2.1.trans k0_h0
  have m_h0 : h0 ∈ u5.1 := (hp h0 m0_h0).1
  refine wiV (C := RX12) (As := [.int p1]) (rest := []) ⟨hx, hb, hml, hown, hts⟩ (fun sz => t_X12_goesOf l D k u5 hu h0 m_h0 k_h0 p1 (by (try simp only [i_lt, i_le, i_eq, Int32.toInt_toInt64, Int32.reduceToInt, Int64.reduceToInt, true_and, and_true, false_and, and_false, false_or, or_false, true_or, or_true, not_true_eq_false, not_false_eq_true, ne_eq, forall_const, true_implies, false_implies, implies_true] at g_p1 g_p2 hpre hr1 tx2 tx3 tx4 ⊢) <;> omega) sz) (cwV 1 hts gX12_goesWith_X12_goesOf rfl rfl rfl (by decide +kernel) ⟨Nat.le_of_ble_eq_true rfl, Nat.le_of_ble_eq_true rfl⟩) hP hK hD hN hS hA (precv hK hP m_h0 (cF12 k_h0) rfl) rfl hl.1 rfl (Nat.le_of_ble_eq_true rfl) dX12_goesWith_25 ⟨Nat.le_of_ble_eq_true rfl, Nat.le_of_ble_eq_true rfl⟩ (fun r6 u7 H locs hqu7 hP hD hS => ?_)
  obtain ⟨hu, hxu7, hr6⟩ := hqu7
  have hp := PX.trans hp hxu7
  refine lv_istore (lv' := [(5, .int r6), (4, .int r1), (0, .ref h0), (1, .int p1), (2, .int p2), (3, .int p3)]) hx hb dX12_goesWith_28 hl (by decide) rfl (fun ls hl => ?_)
  refine lv_aload_n hx hb dX12_goesWith_30 rfl (lv_at hl 2 rfl) ?_
  have k_h0 : u7.2.1 h0 = 12 := (hp h0 m0_h0).2.1.trans k0_h0
  have m_h0 : h0 ∈ u7.1 := (hp h0 m0_h0).1
  have k_a1 : u7.2.1 a1 = 50 := (hp a1 m0_a1).2.1.trans k0_a1
  have m_a1 : a1 ∈ u7.1 := (hp a1 m0_a1).1
  refine pget (ci := 12) (v := va_rf (u7.2.2.2.2 h0 1)) (C := RX12) (T := TX12) (N := 34) hx hb hts i_X12 hown hK hP m_h0 (cF12 k_h0) rfl 1 (by decide) (hts (.fieldLink RX12 13 "BellowsRowModel" "world" "[I") (by decide +kernel)) (fun _ h9 => h9) rfl dX12_goesWith_31 ?_
  refine W.eq (g2 := F0 m 34 ls [.ref a1]) (by rw [(((hp h0 m0_h0).2.2.2.2.2.1 k0_h0 1).trans q0_1)]; rfl) ?_
  refine lv_bipush (v := 26) hx hb dX12_goesWith_34 (by decide) ?_
  refine lv_bipush (v := 24) hx hb dX12_goesWith_36 (by decide) ?_
  refine lv_iload_n hx hb dX12_goesWith_38 rfl (lv_at hl 3 rfl) ?_
  refine lv_imul hx hb dX12_goesWith_39 ?_
  refine lv_topi (fun x8 ex8 => ?_)
  have tx8 : x8.toInt = 24 * p1.toInt := by rw [ex8]; exact i_mulc (c := 24) (by decide) ((show 0 ≤ p1.toInt ∧ p1.toInt ≤ 11 from by (try simp only [i_lt, i_le, i_eq, Int32.toInt_toInt64, Int32.reduceToInt, Int64.reduceToInt, true_and, and_true, false_and, and_false, false_or, or_false, true_or, or_true, not_true_eq_false, not_false_eq_true, ne_eq, forall_const, true_implies, false_implies, implies_true] at g_p1 g_p2 hpre hr1 tx2 tx3 tx4 ⊢) <;> omega)) (by decide)
  refine lv_iadd hx hb dX12_goesWith_40 ?_
  refine lv_topi (fun x9 ex9 => ?_)
  have tx9 : x9.toInt = (26 : Int32).toInt + x8.toInt := by rw [ex9]; exact i_add (by (try simp only [i_lt, i_le, i_eq, Int32.toInt_toInt64, Int32.reduceToInt, Int64.reduceToInt, true_and, and_true, false_and, and_false, false_or, or_false, true_or, or_true, not_true_eq_false, not_false_eq_true, ne_eq, forall_const, true_implies, false_implies, implies_true] at g_p1 g_p2 hpre hr1 tx2 tx3 tx4 tx8 ⊢) <;> omega) (by (try simp only [i_lt, i_le, i_eq, Int32.toInt_toInt64, Int32.reduceToInt, Int64.reduceToInt, true_and, and_true, false_and, and_false, false_or, or_false, true_or, or_true, not_true_eq_false, not_false_eq_true, ne_eq, forall_const, true_implies, false_implies, implies_true] at g_p1 g_p2 hpre hr1 tx2 tx3 tx4 tx8 ⊢) <;> omega)
  refine lv_iload_n hx hb dX12_goesWith_41 rfl (lv_at hl 4 rfl) ?_
  refine lv_iadd hx hb dX12_goesWith_42 ?_
  refine lv_topi (fun x10 ex10 => ?_)
  have tx10 : x10.toInt = x9.toInt + p2.toInt := by rw [ex10]; exact i_add (by (try simp only [i_lt, i_le, i_eq, Int32.toInt_toInt64, Int32.reduceToInt, Int64.reduceToInt, true_and, and_true, false_and, and_false, false_or, or_false, true_or, or_true, not_true_eq_false, not_false_eq_true, ne_eq, forall_const, true_implies, false_implies, implies_true] at g_p1 g_p2 hpre hr1 tx2 tx3 tx4 tx8 tx9 ⊢) <;> omega) (by (try simp only [i_lt, i_le, i_eq, Int32.toInt_toInt64, Int32.reduceToInt, Int64.reduceToInt, true_and, and_true, false_and, and_false, false_or, or_false, true_or, or_true, not_true_eq_false, not_false_eq_true, ne_eq, forall_const, true_implies, false_implies, implies_true] at g_p1 g_p2 hpre hr1 tx2 tx3 tx4 tx8 tx9 ⊢) <;> omega)
  refine lv_iload hx hb dX12_goesWith_43 (lv_at hl 1 rfl) ?_
  refine pasI (u' := pSI u7 a1 (x10.toNatClampNeg) r1) hx hb hK hP hD hS m_a1 (cF50 k_a1) 1 rfl (vp_in_iff.mpr (by (try simp only [i_lt, i_le, i_eq, Int32.toInt_toInt64, Int32.reduceToInt, Int64.reduceToInt, true_and, and_true, false_and, and_false, false_or, or_false, true_or, or_true, not_true_eq_false, not_false_eq_true, ne_eq, forall_const, true_implies, false_implies, implies_true] at g_p1 g_p2 hpre hr1 tx2 tx3 tx4 tx8 tx9 tx10 ⊢) <;> omega)) rfl (sF50 k_a1 _ _) dX12_goesWith_45 (fun H locs hP hD hS => ?_)
  have hu := WT.setI (a := a1) (s := (x10.toNatClampNeg)) (v := r1) hu (by rw [k_a1]; exact (show okW (x10.toNatClampNeg) r1 from by unfold okW; have z := cl_int (x := x10) (by (try simp only [i_lt, i_le, i_eq, Int32.toInt_toInt64, Int32.reduceToInt, Int64.reduceToInt, true_and, and_true, false_and, and_false, false_or, or_false, true_or, or_true, not_true_eq_false, not_false_eq_true, ne_eq, forall_const, true_implies, false_implies, implies_true] at g_p1 g_p2 hpre hr1 tx2 tx3 tx4 tx8 tx9 tx10 ⊢) <;> omega); (try simp only [i_lt, i_le, i_eq, Int32.toInt_toInt64, Int32.reduceToInt, Int64.reduceToInt, true_and, and_true, false_and, and_false, false_or, or_false, true_or, or_true, not_true_eq_false, not_false_eq_true, ne_eq, forall_const, true_implies, false_implies, implies_true] at g_p1 g_p2 hpre hr1 tx2 tx3 tx4 tx8 tx9 tx10 z ⊢) <;> omega))
  have hp := PX.setI (a := a1) (s := (x10.toNatClampNeg)) (v := r1) hp (by rw [k_a1]; decide)
  obtain ⟨u11, hu11⟩ : ∃ z, z = pSI u7 a1 (x10.toNatClampNeg) r1 := ⟨_, rfl⟩
  rw [← hu11] at hP hD hu hp
  refine lv_iload hx hb dX12_goesWith_46 (lv_at hl 0 rfl) ?_
  exact W.iret (v := r6) hx hb hr (fun t ht hW => ⟨⟨r6, u11, rfl, ⟨hu, hp, trivial⟩, by rw [ht]; exact hP, hD⟩, hS.F ht⟩) hS.2.2 dX12_goesWith_48
set_option maxHeartbeats 4000000 in
set_option maxRecDepth 100000 in
theorem t_X12_other (l : Launch) (D : va_G) (k : Nat → ClassId) (u0 : PSt) (hu : WT u0) (h0 : Nat) (m_h0 : h0 ∈ u0.1) (k_h0 : u0.2.1 h0 = 12) (p1 : Int32) (p2 : Int32) (sz : Nat) : Met l yX12_other wsX12_other ({ frames := 7, cells := 0, slots := 0, locals := 170 }) (PreM D k sz (PW k u0) [.ref h0, .int p1, .int p2]) (va_Qi (fun r v => WT v ∧ PX u0 v ∧ (True)) (WB D (va_A (PW k u0) sz) (PW k)) (va_A (PW k u0) sz)) 0 0 (va_A (PW k u0) sz) := by
  refine Met.ofW (cc := cX12_other) (maxL := 4) (ret := (some .int)) (by decide) rfl ?_
  intro p e s m args below meth c s₁ B hml hv
  obtain ⟨rfl, hsz, hP, hK, hD0, hN⟩ := hv
  have hx := B.exec
  have hb := B.bytes
  have hr := B.returns
  have hts := atoms_spec (ws := wsX12_other) B.pre
  have hown : s.vm.findClass RX12 = some m.cls := findClass_of_methodNamed B.named
  have hlocks := B.notSynchronized
  have i_X12 : ∀ w ∈ wsX120, w ∈ wsX12_other := by decide +kernel
  obtain ⟨a22, q0_22, m0_a22, k0_a22⟩ := (hu h0 m_h0).1 22 57 (by rw [k_h0]; rfl)
  obtain ⟨a30, q0_30, m0_a30, k0_a30⟩ := (hu h0 m_h0).1 30 60 (by rw [k_h0]; rfl)
  obtain ⟨a32, q0_32, m0_a32, k0_a32⟩ := (hu h0 m_h0).1 32 62 (by rw [k_h0]; rfl)
  have m0_h0 := m_h0
  have k0_h0 := k_h0
  have m_a22 := m0_a22
  have m_a30 := m0_a30
  have m_a32 := m0_a32
  have k_a22 := k0_a22
  have k_a30 := k0_a30
  have k_a32 := k0_a32
  subst hsz
  have hD := hD0.self (sz := s.heap.size)
  generalize hAe : va_A (PW k u0) s.heap.size = A at hD ⊢
  have hA : ∀ q : Nat, s.heap.size ≤ q → A q := fun q h => by rw [← hAe]; exact Or.inr h
  have hS : va_S A s.heap s.heap [] := va_S.rf
  have hp : PX u0 u0 := PX.rf
  have B43 : ∀ (n43 : Nat) (u : PSt) (H : Heap) (locs : List Loc) (ls : Array Slot) (v1 : Int32) (v2 : Int32) (v3 : Int32), WT u → PX u0 u → va_P D vwCl (PW k u) H → va_D A (PW k u) → va_S A s.heap H locs → (2147483648 - v3.toInt).toNat ≤ n43 → 0 ≤ v1.toInt ∧ v1.toInt ≤ 3 → 0 ≤ v2.toInt ∧ v2.toInt ≤ 11 → 0 ≤ v3.toInt ∧ v3.toInt ≤ 2000 → ((u.2.2.1 h0 23).toInt ≤ 60) → lv_has ls 4 [(0, .ref h0), (1, .int v1), (2, .int v2), (3, .int v3)] → W p l e (headSpec wsX12_other ({ frames := 7, cells := 0, slots := 0, locals := 170 })).room s m ([.ref h0, .int p1, .int p2] : List Value).toArray below meth c H locs 0 0 (MQ below (va_Qi (fun r v => WT v ∧ PX u0 v ∧ (True)) (WB D A (PW k)) A) ([.ref h0, .int p1, .int p2] : List Value).toArray s 0 0 A) (F0 m 43 ls []) := by
    intro n43
    induction n43 with
    | zero =>
      intro u H locs ls v1 v2 v3 hu hp hP hD hS hn43 g_v1 g_v2 g_v3 ex0 hl
      exact absurd hn43 (by have := Int32.toInt_lt v3; have := Int32.le_toInt v3; omega)
    | succ n43 ih43 =>
      intro u H locs ls v1 v2 v3 hu hp hP hD hS hn43 g_v1 g_v2 g_v3 ex0 hl
      refine lv_iload_n hx hb dX12_other_43 rfl (lv_at hl 3 rfl) ?_
      refine lv_aload_n hx hb dX12_other_44 rfl (lv_at hl 0 rfl) ?_
      have k_h0 : u.2.1 h0 = 12 := (hp h0 m0_h0).2.1.trans k0_h0
      have m_h0 : h0 ∈ u.1 := (hp h0 m0_h0).1
      refine pget (ci := 12) (v := .int (u.2.2.1 h0 23)) (C := RX12) (T := TX12) (N := 34) hx hb hts i_X12 hown hK hP m_h0 (cF12 k_h0) rfl 23 (by decide) (hts (.fieldLink RX12 362 "BellowsRowModel" "many" "I") (by decide +kernel)) (fun _ h9 => h9) rfl dX12_other_45 ?_
      have g1 := (hu h0 m_h0).2.2.2 23
      rw [k_h0] at g1
      replace g1 : 0 ≤ (u.2.2.1 h0 23).toInt ∧ (u.2.2.1 h0 23).toInt ≤ 2000 := g1
      refine lv_icmp_ge (tgt := 85) hx hb dX12_other_48 (by decide) (fun c2 => ?_) (fun c2 => ?_)
      · refine lv_aload_n hx hb dX12_other_85 rfl (lv_at hl 0 rfl) ?_
        refine lv_iload_n hx hb dX12_other_86 rfl (lv_at hl 2 rfl) ?_
        refine lv_iconst (v := 0) hx hb dX12_other_87 (by decide) ?_
        refine wiV (C := RX12) (As := [.int v2, .int 0]) (rest := []) ⟨hx, hb, hml, hown, hts⟩ (fun sz => t_X12_goesBy l D k u hu h0 m_h0 k_h0 v2 0 (by (try simp only [i_lt, i_le, i_eq, Int32.toInt_toInt64, Int32.reduceToInt, Int64.reduceToInt, true_and, and_true, false_and, and_false, false_or, or_false, true_or, or_true, not_true_eq_false, not_false_eq_true, ne_eq, forall_const, true_implies, false_implies, implies_true] at g_v1 g_v2 g_v3 ex0 hn43 g1 c2 ⊢) <;> omega) sz) (cwV 2 hts gX12_other_X12_goesBy rfl rfl rfl (by decide +kernel) ⟨Nat.le_of_ble_eq_true rfl, Nat.le_of_ble_eq_true rfl⟩) hP hK hD hN hS hA (precv hK hP m_h0 (cF12 k_h0) rfl) rfl hl.1 rfl (Nat.le_of_ble_eq_true rfl) dX12_other_88 ⟨Nat.le_of_ble_eq_true rfl, Nat.le_of_ble_eq_true rfl⟩ (fun r3 u4 H locs hqu4 hP hD hS => ?_)
        obtain ⟨hu, hxu4, hr3⟩ := hqu4
        have hp := PX.trans hp hxu4
        exact W.iret (v := r3) hx hb hr (fun t ht hW => ⟨⟨r3, u4, rfl, ⟨hu, hp, trivial⟩, by rw [ht]; exact hP, hD⟩, hS.F ht⟩) hS.2.2 dX12_other_91
      · refine lv_aload_n hx hb dX12_other_51 rfl (lv_at hl 0 rfl) ?_
        have k_a22 : u.2.1 a22 = 57 := (hp a22 m0_a22).2.1.trans k0_a22
        have m_a22 : a22 ∈ u.1 := (hp a22 m0_a22).1
        refine pget (ci := 12) (v := va_rf (u.2.2.2.2 h0 22)) (C := RX12) (T := TX12) (N := 34) hx hb hts i_X12 hown hK hP m_h0 (cF12 k_h0) rfl 22 (by decide) (hts (.fieldLink RX12 49 "BellowsRowModel" "presses" "[I") (by decide +kernel)) (fun _ h9 => h9) rfl dX12_other_52 ?_
        refine W.eq (g2 := F0 m 55 ls [.ref a22]) (by rw [(((hp h0 m0_h0).2.2.2.2.2.1 k0_h0 22).trans q0_22)]; rfl) ?_
        refine lv_iload_n hx hb dX12_other_55 rfl (lv_at hl 3 rfl) ?_
        refine lv_lconst (v := 0) hx hb dX12_other_56 (by decide) ?_
        refine lv_ldc2 (own := RX12) (v := 999) hx hb hown (hts (.constantLong RX12 80 (999)) (by decide +kernel)) dX12_other_57 ?_
        refine lv_aload_n hx hb dX12_other_60 rfl (lv_at hl 0 rfl) ?_
        have k_a32 : u.2.1 a32 = 62 := (hp a32 m0_a32).2.1.trans k0_a32
        have m_a32 : a32 ∈ u.1 := (hp a32 m0_a32).1
        refine pget (ci := 12) (v := va_rf (u.2.2.2.2 h0 32)) (C := RX12) (T := TX12) (N := 34) hx hb hts i_X12 hown hK hP m_h0 (cF12 k_h0) rfl 32 (by decide) (hts (.fieldLink RX12 67 "BellowsRowModel" "numbers" "[J") (by decide +kernel)) (fun _ h9 => h9) rfl dX12_other_61 ?_
        refine W.eq (g2 := F0 m 64 ls [.ref a32, .long 999, .long 0, .int v3, .ref a22]) (by rw [(((hp h0 m0_h0).2.2.2.2.2.1 k0_h0 32).trans q0_32)]; rfl) ?_
        refine lv_bipush (v := 60) hx hb dX12_other_64 (by decide) ?_
        refine lv_iload_n hx hb dX12_other_66 rfl (lv_at hl 1 rfl) ?_
        refine lv_imul hx hb dX12_other_67 ?_
        refine lv_topi (fun x5 ex5 => ?_)
        have tx5 : x5.toInt = 60 * v1.toInt := by rw [ex5]; exact i_mulc (c := 60) (by decide) ((show 0 ≤ v1.toInt ∧ v1.toInt ≤ 3 from by (try simp only [i_lt, i_le, i_eq, Int32.toInt_toInt64, Int32.reduceToInt, Int64.reduceToInt, true_and, and_true, false_and, and_false, false_or, or_false, true_or, or_true, not_true_eq_false, not_false_eq_true, ne_eq, forall_const, true_implies, false_implies, implies_true] at g_v1 g_v2 g_v3 ex0 hn43 g1 c2 ⊢) <;> omega)) (by decide)
        refine lv_iload_n hx hb dX12_other_68 rfl (lv_at hl 3 rfl) ?_
        refine lv_iadd hx hb dX12_other_69 ?_
        refine lv_topi (fun x6 ex6 => ?_)
        have tx6 : x6.toInt = x5.toInt + v3.toInt := by rw [ex6]; exact i_add (by (try simp only [i_lt, i_le, i_eq, Int32.toInt_toInt64, Int32.reduceToInt, Int64.reduceToInt, true_and, and_true, false_and, and_false, false_or, or_false, true_or, or_true, not_true_eq_false, not_false_eq_true, ne_eq, forall_const, true_implies, false_implies, implies_true] at g_v1 g_v2 g_v3 ex0 hn43 g1 c2 tx5 ⊢) <;> omega) (by (try simp only [i_lt, i_le, i_eq, Int32.toInt_toInt64, Int32.reduceToInt, Int64.reduceToInt, true_and, and_true, false_and, and_false, false_or, or_false, true_or, or_true, not_true_eq_false, not_false_eq_true, ne_eq, forall_const, true_implies, false_implies, implies_true] at g_v1 g_v2 g_v3 ex0 hn43 g1 c2 tx5 ⊢) <;> omega)
        refine palJ hx hb hK hP m_a32 (cF62 k_a32) 2 rfl (vp_in_iff.mpr (by (try simp only [i_lt, i_le, i_eq, Int32.toInt_toInt64, Int32.reduceToInt, Int64.reduceToInt, true_and, and_true, false_and, and_false, false_or, or_false, true_or, or_true, not_true_eq_false, not_false_eq_true, ne_eq, forall_const, true_implies, false_implies, implies_true] at g_v1 g_v2 g_v3 ex0 hn43 g1 c2 tx5 tx6 ⊢) <;> omega)) dX12_other_70 ?_
        refine lv_topl (fun x7 ex7 => ?_)
        refine va_mmin_long hx hb (hml.trans hl.1.symm) hown (hts (.methodLink RX12 344 Lib.MathLoose.min_long.x) (by decide +kernel)) (hts (.static Lib.MathLoose.min_long.x) (by decide +kernel)) (hts (.initialized "java/lang/Math") (by decide +kernel)) (hts (.code Lib.MathLoose.min_long.x Lib.MathLoose.min_long.code 4 (some .long)) (by decide +kernel)) (Nat.le_of_ble_eq_true rfl) (Nat.le_of_ble_eq_true rfl) (Nat.le_of_ble_eq_true rfl) (Nat.le_of_ble_eq_true rfl) dX12_other_71 ?_
        refine lv_topl (fun x8 ex8 => ?_)
        have tx8 : x8.toInt ≤ (999 : Int64).toInt ∧ x8.toInt ≤ x7.toInt ∧ (x8.toInt = (999 : Int64).toInt ∨ x8.toInt = x7.toInt) := by rw [ex8]; exact l_min
        refine va_mmax_long hx hb (hml.trans hl.1.symm) hown (hts (.methodLink RX12 476 Lib.MathLoose.max_long.x) (by decide +kernel)) (hts (.static Lib.MathLoose.max_long.x) (by decide +kernel)) (hts (.initialized "java/lang/Math") (by decide +kernel)) (hts (.code Lib.MathLoose.max_long.x Lib.MathLoose.max_long.code 4 (some .long)) (by decide +kernel)) (Nat.le_of_ble_eq_true rfl) (Nat.le_of_ble_eq_true rfl) (Nat.le_of_ble_eq_true rfl) (Nat.le_of_ble_eq_true rfl) dX12_other_74 ?_
        refine lv_topl (fun x9 ex9 => ?_)
        have tx9 : x9.toInt ≥ (0 : Int64).toInt ∧ x9.toInt ≥ x8.toInt ∧ (x9.toInt = (0 : Int64).toInt ∨ x9.toInt = x8.toInt) := by rw [ex9]; exact l_max
        refine lv_l2i hx hb dX12_other_77 rfl ?_
        refine lv_topi (fun x10 ex10 => ?_)
        have tx10 : x10.toInt = x9.toInt := by rw [ex10]; exact l_toi (by (try simp only [i_lt, i_le, i_eq, Int32.toInt_toInt64, Int32.reduceToInt, Int64.reduceToInt, true_and, and_true, false_and, and_false, false_or, or_false, true_or, or_true, not_true_eq_false, not_false_eq_true, ne_eq, forall_const, true_implies, false_implies, implies_true] at g_v1 g_v2 g_v3 ex0 hn43 g1 c2 tx5 tx6 tx8 tx9 ⊢) <;> omega)
        refine pasI (u' := pSI u a22 (v3.toNatClampNeg) x10) hx hb hK hP hD hS m_a22 (cF57 k_a22) 1 rfl (vp_in_iff.mpr (by (try simp only [i_lt, i_le, i_eq, Int32.toInt_toInt64, Int32.reduceToInt, Int64.reduceToInt, true_and, and_true, false_and, and_false, false_or, or_false, true_or, or_true, not_true_eq_false, not_false_eq_true, ne_eq, forall_const, true_implies, false_implies, implies_true] at g_v1 g_v2 g_v3 ex0 hn43 g1 c2 tx5 tx6 tx8 tx9 tx10 ⊢) <;> omega)) rfl (sF57 k_a22 _ _) dX12_other_78 (fun H locs hP hD hS => ?_)
        have hu := WT.setI (a := a22) (s := (v3.toNatClampNeg)) (v := x10) hu (by rw [k_a22]; exact (show 0 ≤ x10.toInt ∧ x10.toInt ≤ 999 from by (try simp only [i_lt, i_le, i_eq, Int32.toInt_toInt64, Int32.reduceToInt, Int64.reduceToInt, true_and, and_true, false_and, and_false, false_or, or_false, true_or, or_true, not_true_eq_false, not_false_eq_true, ne_eq, forall_const, true_implies, false_implies, implies_true] at g_v1 g_v2 g_v3 ex0 hn43 g1 c2 tx5 tx6 tx8 tx9 tx10 ⊢) <;> omega))
        have hp := PX.setI (a := a22) (s := (v3.toNatClampNeg)) (v := x10) hp (by rw [k_a22]; decide)
        obtain ⟨u11, hu11⟩ : ∃ z, z = pSI u a22 (v3.toNatClampNeg) x10 := ⟨_, rfl⟩
        rw [← hu11] at hP hD hu hp
        have w12 : (u11.2.2.1 h0 23).toInt = (u.2.2.1 h0 23).toInt := by rw [hu11]; exact congrArg Int32.toInt (if_neg (fun q => by have y := q.1; have z := k_h0; rw [y, k_a22] at z; exact absurd z (by decide)))
        obtain ⟨x13, ex13⟩ : ∃ y : Int32, y = v3 + 1 := ⟨_, rfl⟩
        have tx13 : x13.toInt = v3.toInt + 1 := by rw [ex13]; exact i_add (b := 1) (by (try simp only [i_lt, i_le, i_eq, Int32.toInt_toInt64, Int32.reduceToInt, Int64.reduceToInt, true_and, and_true, false_and, and_false, false_or, or_false, true_or, or_true, not_true_eq_false, not_false_eq_true, ne_eq, forall_const, true_implies, false_implies, implies_true] at g_v1 g_v2 g_v3 ex0 hn43 g1 c2 tx5 tx6 tx8 tx9 tx10 w12 ⊢) <;> omega) (by (try simp only [i_lt, i_le, i_eq, Int32.toInt_toInt64, Int32.reduceToInt, Int64.reduceToInt, true_and, and_true, false_and, and_false, false_or, or_false, true_or, or_true, not_true_eq_false, not_false_eq_true, ne_eq, forall_const, true_implies, false_implies, implies_true] at g_v1 g_v2 g_v3 ex0 hn43 g1 c2 tx5 tx6 tx8 tx9 tx10 w12 ⊢) <;> omega)
        refine lv_iinc (v := x13) (lv' := [(3, .int x13), (0, .ref h0), (1, .int v1), (2, .int v2)]) hx hb dX12_other_79 hl (k := 3) rfl (by rw [ex13]; rfl) (by decide) rfl (fun ls hl => ?_)
        refine lv_goto (tgt := 43) hx hb dX12_other_82 (by decide) ?_
        exact ih43 _ _ _ ls v1 v2 x13 hu hp hP hD hS (by (try simp only [i_lt, i_le, i_eq, Int32.toInt_toInt64, Int32.reduceToInt, Int64.reduceToInt, true_and, and_true, false_and, and_false, false_or, or_false, true_or, or_true, not_true_eq_false, not_false_eq_true, ne_eq, forall_const, true_implies, false_implies, implies_true] at g_v1 g_v2 g_v3 ex0 hn43 g1 c2 tx5 tx6 tx8 tx9 tx10 w12 tx13 ⊢) <;> omega) (by (try simp only [i_lt, i_le, i_eq, Int32.toInt_toInt64, Int32.reduceToInt, Int64.reduceToInt, true_and, and_true, false_and, and_false, false_or, or_false, true_or, or_true, not_true_eq_false, not_false_eq_true, ne_eq, forall_const, true_implies, false_implies, implies_true] at g_v1 g_v2 g_v3 ex0 hn43 g1 c2 tx5 tx6 tx8 tx9 tx10 w12 tx13 ⊢) <;> omega) (by (try simp only [i_lt, i_le, i_eq, Int32.toInt_toInt64, Int32.reduceToInt, Int64.reduceToInt, true_and, and_true, false_and, and_false, false_or, or_false, true_or, or_true, not_true_eq_false, not_false_eq_true, ne_eq, forall_const, true_implies, false_implies, implies_true] at g_v1 g_v2 g_v3 ex0 hn43 g1 c2 tx5 tx6 tx8 tx9 tx10 w12 tx13 ⊢) <;> omega) (by (try simp only [i_lt, i_le, i_eq, Int32.toInt_toInt64, Int32.reduceToInt, Int64.reduceToInt, true_and, and_true, false_and, and_false, false_or, or_false, true_or, or_true, not_true_eq_false, not_false_eq_true, ne_eq, forall_const, true_implies, false_implies, implies_true] at g_v1 g_v2 g_v3 ex0 hn43 g1 c2 tx5 tx6 tx8 tx9 tx10 w12 tx13 ⊢) <;> omega) (by (try simp only [i_lt, i_le, i_eq, Int32.toInt_toInt64, Int32.reduceToInt, Int64.reduceToInt, true_and, and_true, false_and, and_false, false_or, or_false, true_or, or_true, not_true_eq_false, not_false_eq_true, ne_eq, forall_const, true_implies, false_implies, implies_true] at g_v1 g_v2 g_v3 ex0 hn43 g1 c2 tx5 tx6 tx8 tx9 tx10 w12 tx13 ⊢) <;> omega) (lv_sub hl [1, 2, 3, 0] rfl)
  have hl := lv_entry ([.ref h0, .int p1, .int p2]) (n := 4) (Nat.le_of_ble_eq_true rfl)
  rw [lg_entry_eq]
  generalize (lg_sl ([.ref h0, .int p1, .int p2]) ++ List.replicate (4 - (lg_sl ([.ref h0, .int p1, .int p2])).length) Slot.unset).toArray = ls at hl ⊢
  have hl : lv_has ls 4 [(0, .ref h0), (1, .int p1), (2, .int p2)] := hl
  refine lv_iload_n hx hb dX12_other_0 rfl (lv_at hl 1 rfl) ?_
  refine psi (As := [.int p1]) (rest := []) ⟨hx, hb, hml, hown, hts⟩ (t_X12_isSlot l D k p1) (va_cwS 1 hts gX12_other_X12_isSlot rfl rfl rfl (by decide +kernel) ⟨Nat.le_of_ble_eq_true rfl, Nat.le_of_ble_eq_true rfl⟩) hK rfl hl.1 rfl (Nat.le_of_ble_eq_true rfl) dX12_other_1 ⟨Nat.le_of_ble_eq_true rfl, Nat.le_of_ble_eq_true rfl⟩ (fun r14 hr14 => ?_)
  refine lv_if_eq (tgt := 15) hx hb dX12_other_4 (by decide) (fun c15 => ?_) (fun c15 => ?_)
  · have eb16 : r14.toInt = 0 := by rcases hr14 with ⟨q, -⟩ | ⟨q, -⟩; exact q; (exact absurd (c15) (fun w => by rw [w] at q; exact absurd q (by decide)))
    have fb16 : (p1.toInt < 0 ∨ 3 < p1.toInt) := by rcases hr14 with ⟨q, r⟩ | ⟨q, r⟩; exact r; exact absurd q (by omega)
    clear hr14
    refine lv_bipush (v := (-2)) hx hb dX12_other_15 (by decide) ?_
    exact W.iret (v := (-2)) hx hb hr (fun t ht hW => ⟨⟨(-2), u0, rfl, ⟨hu, hp, trivial⟩, by rw [ht]; exact hP, hD⟩, hS.F ht⟩) hS.2.2 dX12_other_17
  · have eb17 : r14.toInt = 1 := by rcases hr14 with ⟨q, -⟩ | ⟨q, -⟩; exact absurd (i_eq.mpr q) c15; exact q
    have fb17 : 0 ≤ p1.toInt ∧ p1.toInt ≤ 3 := by rcases hr14 with ⟨q, r⟩ | ⟨q, r⟩; exact absurd q (by omega); exact r
    clear hr14
    refine lv_aload_n hx hb dX12_other_7 rfl (lv_at hl 0 rfl) ?_
    refine lv_iload_n hx hb dX12_other_8 rfl (lv_at hl 2 rfl) ?_
    refine rvi (C := RX12) (As := [.int p2]) (rest := []) ⟨hx, hb, hml, hown, hts⟩ (t_X12_isPipe l D k u0 hu h0 m_h0 k_h0 p2) (cwV 1 hts gX12_other_X12_isPipe rfl rfl rfl (by decide +kernel) ⟨Nat.le_of_ble_eq_true rfl, Nat.le_of_ble_eq_true rfl⟩) hP hK (precv hK hP m_h0 (cF12 k_h0) rfl) rfl hl.1 rfl (Nat.le_of_ble_eq_true rfl) dX12_other_9 ⟨Nat.le_of_ble_eq_true rfl, Nat.le_of_ble_eq_true rfl⟩ (fun r18 hr18 => ?_)
    refine lv_if_ne (tgt := 18) hx hb dX12_other_12 (by decide) (fun c19 => ?_) (fun c19 => ?_)
    · have eb20 : r18.toInt = 1 := by rcases hr18 with q | ⟨q, -⟩; exact absurd (i_eq.mpr q) c19; exact q
      have fb20 : 0 ≤ p2.toInt ∧ p2.toInt ≤ 11 := by rcases hr18 with q | ⟨q, r⟩; exact absurd q (by omega); exact r
      clear hr18
      refine lv_aload_n hx hb dX12_other_18 rfl (lv_at hl 0 rfl) ?_
      refine pget (ci := 12) (v := va_rf (u0.2.2.2.2 h0 30)) (C := RX12) (T := TX12) (N := 34) hx hb hts i_X12 hown hK hP m_h0 (cF12 k_h0) rfl 30 (by decide) (hts (.fieldLink RX12 61 "BellowsRowModel" "slotMany" "[I") (by decide +kernel)) (fun _ h9 => h9) rfl dX12_other_19 ?_
      refine W.eq (g2 := F0 m 22 ls [.ref a30]) (by rw [(((hp h0 m0_h0).2.2.2.2.2.1 k0_h0 30).trans q0_30)]; rfl) ?_
      refine lv_iload_n hx hb dX12_other_22 rfl (lv_at hl 1 rfl) ?_
      refine palI hx hb hK hP m_a30 (cF60 k_a30) 1 rfl (vp_in_iff.mpr (by (try simp only [i_lt, i_le, i_eq, Int32.toInt_toInt64, Int32.reduceToInt, Int64.reduceToInt, true_and, and_true, false_and, and_false, false_or, or_false, true_or, or_true, not_true_eq_false, not_false_eq_true, ne_eq, forall_const, true_implies, false_implies, implies_true] at eb17 fb17 eb20 fb20 ⊢) <;> omega)) dX12_other_23 ?_
      refine lv_topi (fun x21 ex21 => ?_)
      have tx21 : x21.toInt = (u0.2.2.1 a30 (p1.toNatClampNeg)).toInt := congrArg Int32.toInt ex21
      have g22 : -1 ≤ x21.toInt ∧ x21.toInt ≤ 60 := by have g := (hu a30 m_a30).2.2.2 (p1.toNatClampNeg); rw [k_a30] at g; rw [show x21 = _ from ex21]; exact g
      refine lv_iconst (v := (-1)) hx hb dX12_other_24 (by decide) ?_
      refine lv_icmp_ne (tgt := 31) hx hb dX12_other_25 (by decide) (fun c23 => ?_) (fun c23 => ?_)
      · refine lv_aload_n hx hb dX12_other_31 rfl (lv_at hl 0 rfl) ?_
        refine lv_aload_n hx hb dX12_other_32 rfl (lv_at hl 0 rfl) ?_
        refine pget (ci := 12) (v := va_rf (u0.2.2.2.2 h0 30)) (C := RX12) (T := TX12) (N := 34) hx hb hts i_X12 hown hK hP m_h0 (cF12 k_h0) rfl 30 (by decide) (hts (.fieldLink RX12 61 "BellowsRowModel" "slotMany" "[I") (by decide +kernel)) (fun _ h9 => h9) rfl dX12_other_33 ?_
        refine W.eq (g2 := F0 m 36 ls [.ref a30, .ref h0]) (by rw [(((hp h0 m0_h0).2.2.2.2.2.1 k0_h0 30).trans q0_30)]; rfl) ?_
        refine lv_iload_n hx hb dX12_other_36 rfl (lv_at hl 1 rfl) ?_
        refine palI hx hb hK hP m_a30 (cF60 k_a30) 1 rfl (vp_in_iff.mpr (by (try simp only [i_lt, i_le, i_eq, Int32.toInt_toInt64, Int32.reduceToInt, Int64.reduceToInt, true_and, and_true, false_and, and_false, false_or, or_false, true_or, or_true, not_true_eq_false, not_false_eq_true, ne_eq, forall_const, true_implies, false_implies, implies_true] at eb17 fb17 eb20 fb20 tx21 g22 c23 ⊢) <;> omega)) dX12_other_37 ?_
        refine lv_topi (fun x24 ex24 => ?_)
        have tx24 : x24.toInt = (u0.2.2.1 a30 (p1.toNatClampNeg)).toInt := congrArg Int32.toInt ex24
        have g25 : -1 ≤ x24.toInt ∧ x24.toInt ≤ 60 := by have g := (hu a30 m_a30).2.2.2 (p1.toNatClampNeg); rw [k_a30] at g; rw [show x24 = _ from ex24]; exact g
        refine pput (u' := pSI u0 h0 23 x24) (ci := 12) (v := .int x24) (ty := .int) (C := RX12) (T := TX12) (N := 34) hx hb hts i_X12 tyX12 tyX12_ok nmX12 hown hK hP hD hS m_h0 (cF12 k_h0) rfl 23 (by decide) (hts (.fieldLink RX12 362 "BellowsRowModel" "many" "I") (by decide +kernel)) (fun _ h9 => h9) rfl (by decide +kernel) rfl rfl (Nat.le_of_ble_eq_true rfl) rfl (sF12_23 k_h0 x24) dX12_other_38 (fun H locs hP hD hS => ?_)
        have hu := WT.setI (a := h0) (s := 23) (v := x24) hu (by rw [k_h0]; exact (show 0 ≤ x24.toInt ∧ x24.toInt ≤ 2000 from by (try simp only [i_lt, i_le, i_eq, Int32.toInt_toInt64, Int32.reduceToInt, Int64.reduceToInt, true_and, and_true, false_and, and_false, false_or, or_false, true_or, or_true, not_true_eq_false, not_false_eq_true, ne_eq, forall_const, true_implies, false_implies, implies_true] at eb17 fb17 eb20 fb20 tx21 g22 c23 tx24 g25 ⊢) <;> omega))
        have hp := PX.setI (a := h0) (s := 23) (v := x24) hp (by rw [k_h0]; decide)
        obtain ⟨u26, hu26⟩ : ∃ z, z = pSI u0 h0 23 x24 := ⟨_, rfl⟩
        rw [← hu26] at hP hD hu hp
        have w27 : (u26.2.2.1 h0 23).toInt = x24.toInt := by rw [hu26]; exact congrArg Int32.toInt (if_pos ⟨rfl, rfl⟩)
        refine lv_iconst (v := 0) hx hb dX12_other_41 (by decide) ?_
        refine lv_istore_n (lv' := [(3, .int 0), (0, .ref h0), (1, .int p1), (2, .int p2)]) hx hb dX12_other_42 rfl hl (by decide) rfl (fun ls hl => ?_)
        exact B43 _ _ _ _ ls p1 p2 0 hu hp hP hD hS (Nat.le_refl _) (by (try simp only [i_lt, i_le, i_eq, Int32.toInt_toInt64, Int32.reduceToInt, Int64.reduceToInt, true_and, and_true, false_and, and_false, false_or, or_false, true_or, or_true, not_true_eq_false, not_false_eq_true, ne_eq, forall_const, true_implies, false_implies, implies_true] at eb17 fb17 eb20 fb20 tx21 g22 c23 tx24 g25 w27 ⊢) <;> omega) (by (try simp only [i_lt, i_le, i_eq, Int32.toInt_toInt64, Int32.reduceToInt, Int64.reduceToInt, true_and, and_true, false_and, and_false, false_or, or_false, true_or, or_true, not_true_eq_false, not_false_eq_true, ne_eq, forall_const, true_implies, false_implies, implies_true] at eb17 fb17 eb20 fb20 tx21 g22 c23 tx24 g25 w27 ⊢) <;> omega) (by (try simp only [i_lt, i_le, i_eq, Int32.toInt_toInt64, Int32.reduceToInt, Int64.reduceToInt, true_and, and_true, false_and, and_false, false_or, or_false, true_or, or_true, not_true_eq_false, not_false_eq_true, ne_eq, forall_const, true_implies, false_implies, implies_true] at eb17 fb17 eb20 fb20 tx21 g22 c23 tx24 g25 w27 ⊢) <;> omega) (by (try simp only [i_lt, i_le, i_eq, Int32.toInt_toInt64, Int32.reduceToInt, Int64.reduceToInt, true_and, and_true, false_and, and_false, false_or, or_false, true_or, or_true, not_true_eq_false, not_false_eq_true, ne_eq, forall_const, true_implies, false_implies, implies_true] at eb17 fb17 eb20 fb20 tx21 g22 c23 tx24 g25 w27 ⊢) <;> omega) (lv_sub hl [1, 2, 3, 0] rfl)
      · refine lv_bipush (v := (-6)) hx hb dX12_other_28 (by decide) ?_
        exact W.iret (v := (-6)) hx hb hr (fun t ht hW => ⟨⟨(-6), u0, rfl, ⟨hu, hp, trivial⟩, by rw [ht]; exact hP, hD⟩, hS.F ht⟩) hS.2.2 dX12_other_30
    · have eb28 : r18.toInt = 0 := by rcases hr18 with q | ⟨q, -⟩; exact q; (exact absurd (c19) (fun w => by rw [w] at q; exact absurd q (by decide)))
      clear hr18
      refine lv_bipush (v := (-2)) hx hb dX12_other_15 (by decide) ?_
      exact W.iret (v := (-2)) hx hb hr (fun t ht hW => ⟨⟨(-2), u0, rfl, ⟨hu, hp, trivial⟩, by rw [ht]; exact hP, hD⟩, hS.F ht⟩) hS.2.2 dX12_other_17
set_option maxHeartbeats 4000000 in
set_option maxRecDepth 100000 in
theorem t_X12_prop (l : Launch) (D : va_G) (k : Nat → ClassId) (u0 : PSt) (hu : WT u0) (h0 : Nat) (m_h0 : h0 ∈ u0.1) (k_h0 : u0.2.1 h0 = 12) (p1 : Int32) (p2 : Int32) (g_p2 : 0 ≤ p2.toInt ∧ p2.toInt ≤ 1) (sz : Nat) : Met l yX12_prop wsX12_prop ({ frames := 9, cells := 0, slots := 0, locals := 216 }) (PreM D k sz (PW k u0) [.ref h0, .int p1, .int p2]) (va_Qi (fun r v => WT v ∧ PX u0 v ∧ (True)) (WB D (va_A (PW k u0) sz) (PW k)) (va_A (PW k u0) sz)) 0 0 (va_A (PW k u0) sz) := by
  refine Met.ofW (cc := cX12_prop) (maxL := 3) (ret := (some .int)) (by decide) rfl ?_
  intro p e s m args below meth c s₁ B hml hv
  obtain ⟨rfl, hsz, hP, hK, hD0, hN⟩ := hv
  have hx := B.exec
  have hb := B.bytes
  have hr := B.returns
  have hts := atoms_spec (ws := wsX12_prop) B.pre
  have hown : s.vm.findClass RX12 = some m.cls := findClass_of_methodNamed B.named
  have hlocks := B.notSynchronized
  have m0_h0 := m_h0
  have k0_h0 := k_h0
  subst hsz
  have hD := hD0.self (sz := s.heap.size)
  generalize hAe : va_A (PW k u0) s.heap.size = A at hD ⊢
  have hA : ∀ q : Nat, s.heap.size ≤ q → A q := fun q h => by rw [← hAe]; exact Or.inr h
  have hS : va_S A s.heap s.heap [] := va_S.rf
  have hp : PX u0 u0 := PX.rf
  have hl := lv_entry ([.ref h0, .int p1, .int p2]) (n := 3) (Nat.le_of_ble_eq_true rfl)
  rw [lg_entry_eq]
  generalize (lg_sl ([.ref h0, .int p1, .int p2]) ++ List.replicate (3 - (lg_sl ([.ref h0, .int p1, .int p2])).length) Slot.unset).toArray = ls at hl ⊢
  have hl : lv_has ls 3 [(0, .ref h0), (1, .int p1), (2, .int p2)] := hl
  refine lv_aload_n hx hb dX12_prop_0 rfl (lv_at hl 0 rfl) ?_
  refine lv_iload_n hx hb dX12_prop_1 rfl (lv_at hl 1 rfl) ?_
  refine rvi (C := RX12) (As := [.int p1]) (rest := []) ⟨hx, hb, hml, hown, hts⟩ (t_X12_isPipe l D k u0 hu h0 m_h0 k_h0 p1) (cwV 1 hts gX12_prop_X12_isPipe rfl rfl rfl (by decide +kernel) ⟨Nat.le_of_ble_eq_true rfl, Nat.le_of_ble_eq_true rfl⟩) hP hK (precv hK hP m_h0 (cF12 k_h0) rfl) rfl hl.1 rfl (Nat.le_of_ble_eq_true rfl) dX12_prop_2 ⟨Nat.le_of_ble_eq_true rfl, Nat.le_of_ble_eq_true rfl⟩ (fun r1 hr1 => ?_)
  refine lv_if_eq (tgt := 27) hx hb dX12_prop_5 (by decide) (fun c2 => ?_) (fun c2 => ?_)
  · have eb3 : r1.toInt = 0 := by rcases hr1 with q | ⟨q, -⟩; exact q; (exact absurd (c2) (fun w => by rw [w] at q; exact absurd q (by decide)))
    clear hr1
    refine lv_bipush (v := (-2)) hx hb dX12_prop_27 (by decide) ?_
    exact W.iret (v := (-2)) hx hb hr (fun t ht hW => ⟨⟨(-2), u0, rfl, ⟨hu, hp, trivial⟩, by rw [ht]; exact hP, hD⟩, hS.F ht⟩) hS.2.2 dX12_prop_29
  · have eb4 : r1.toInt = 1 := by rcases hr1 with q | ⟨q, -⟩; exact absurd (i_eq.mpr q) c2; exact q
    have fb4 : 0 ≤ p1.toInt ∧ p1.toInt ≤ 11 := by rcases hr1 with q | ⟨q, r⟩; exact absurd q (by omega); exact r
    clear hr1
    refine lv_aload_n hx hb dX12_prop_8 rfl (lv_at hl 0 rfl) ?_
    refine lv_iload_n hx hb dX12_prop_9 rfl (lv_at hl 1 rfl) ?_
    refine lv_bipush (v := 6) hx hb dX12_prop_10 (by decide) ?_
    refine lv_iload_n hx hb dX12_prop_12 rfl (lv_at hl 2 rfl) ?_
    refine lv_if_eq (tgt := 20) hx hb dX12_prop_13 (by decide) (fun c5 => ?_) (fun c5 => ?_)
    · refine lv_iconst (v := 0) hx hb dX12_prop_20 (by decide) ?_
      refine wiV (C := RX12) (As := [.int p1, .int 6, .int 0]) (rest := []) ⟨hx, hb, hml, hown, hts⟩ (fun sz => t_X12_goesWith l D k u0 hu h0 m_h0 k_h0 p1 6 0 (by (try simp only [i_lt, i_le, i_eq, Int32.toInt_toInt64, Int32.reduceToInt, Int64.reduceToInt, true_and, and_true, false_and, and_false, false_or, or_false, true_or, or_true, not_true_eq_false, not_false_eq_true, ne_eq, forall_const, true_implies, false_implies, implies_true] at g_p2 eb4 fb4 c5 ⊢) <;> omega) (by decide) (by (try simp only [i_lt, i_le, i_eq, Int32.toInt_toInt64, Int32.reduceToInt, Int64.reduceToInt, true_and, and_true, false_and, and_false, false_or, or_false, true_or, or_true, not_true_eq_false, not_false_eq_true, ne_eq, forall_const, true_implies, false_implies, implies_true] at g_p2 eb4 fb4 c5 ⊢) <;> omega) sz) (cwV 3 hts gX12_prop_X12_goesWith rfl rfl rfl (by decide +kernel) ⟨Nat.le_of_ble_eq_true rfl, Nat.le_of_ble_eq_true rfl⟩) hP hK hD hN hS hA (precv hK hP m_h0 (cF12 k_h0) rfl) rfl hl.1 rfl (Nat.le_of_ble_eq_true rfl) dX12_prop_21 ⟨Nat.le_of_ble_eq_true rfl, Nat.le_of_ble_eq_true rfl⟩ (fun r6 u7 H locs hqu7 hP hD hS => ?_)
      obtain ⟨hu, hxu7, hr6⟩ := hqu7
      have hp := PX.trans hp hxu7
      refine lv_goto (tgt := 29) hx hb dX12_prop_24 (by decide) ?_
      exact W.iret (v := r6) hx hb hr (fun t ht hW => ⟨⟨r6, u7, rfl, ⟨hu, hp, trivial⟩, by rw [ht]; exact hP, hD⟩, hS.F ht⟩) hS.2.2 dX12_prop_29
    · refine lv_iconst (v := 1) hx hb dX12_prop_16 (by decide) ?_
      refine lv_goto (tgt := 21) hx hb dX12_prop_17 (by decide) ?_
      refine wiV (C := RX12) (As := [.int p1, .int 6, .int 1]) (rest := []) ⟨hx, hb, hml, hown, hts⟩ (fun sz => t_X12_goesWith l D k u0 hu h0 m_h0 k_h0 p1 6 1 (by (try simp only [i_lt, i_le, i_eq, Int32.toInt_toInt64, Int32.reduceToInt, Int64.reduceToInt, true_and, and_true, false_and, and_false, false_or, or_false, true_or, or_true, not_true_eq_false, not_false_eq_true, ne_eq, forall_const, true_implies, false_implies, implies_true] at g_p2 eb4 fb4 c5 ⊢) <;> omega) (by decide) (by (try simp only [i_lt, i_le, i_eq, Int32.toInt_toInt64, Int32.reduceToInt, Int64.reduceToInt, true_and, and_true, false_and, and_false, false_or, or_false, true_or, or_true, not_true_eq_false, not_false_eq_true, ne_eq, forall_const, true_implies, false_implies, implies_true] at g_p2 eb4 fb4 c5 ⊢) <;> omega) sz) (cwV 3 hts gX12_prop_X12_goesWith rfl rfl rfl (by decide +kernel) ⟨Nat.le_of_ble_eq_true rfl, Nat.le_of_ble_eq_true rfl⟩) hP hK hD hN hS hA (precv hK hP m_h0 (cF12 k_h0) rfl) rfl hl.1 rfl (Nat.le_of_ble_eq_true rfl) dX12_prop_21 ⟨Nat.le_of_ble_eq_true rfl, Nat.le_of_ble_eq_true rfl⟩ (fun r8 u9 H locs hqu9 hP hD hS => ?_)
      obtain ⟨hu, hxu9, hr8⟩ := hqu9
      have hp := PX.trans hp hxu9
      refine lv_goto (tgt := 29) hx hb dX12_prop_24 (by decide) ?_
      exact W.iret (v := r8) hx hb hr (fun t ht hW => ⟨⟨r8, u9, rfl, ⟨hu, hp, trivial⟩, by rw [ht]; exact hP, hD⟩, hS.F ht⟩) hS.2.2 dX12_prop_29
set_option maxHeartbeats 4000000 in
set_option maxRecDepth 100000 in
theorem t_X12_show (l : Launch) (D : va_G) (k : Nat → ClassId) (u0 : PSt) (hu : WT u0) (h0 : Nat) (m_h0 : h0 ∈ u0.1) (k_h0 : u0.2.1 h0 = 12) (sz : Nat) : Met l yX12_show wsX12_show ({ frames := 8, cells := 0, slots := 0, locals := 191 }) (PreM D k sz (PW k u0) [.ref h0]) (va_Qi (fun r v => WT v ∧ PX u0 v ∧ (True)) (WB D (va_A (PW k u0) sz) (PW k)) (va_A (PW k u0) sz)) 0 0 (va_A (PW k u0) sz) := by
  refine Met.ofW (cc := cX12_show) (maxL := 3) (ret := (some .int)) (by decide) rfl ?_
  intro p e s m args below meth c s₁ B hml hv
  obtain ⟨rfl, hsz, hP, hK, hD0, hN⟩ := hv
  have hx := B.exec
  have hb := B.bytes
  have hr := B.returns
  have hts := atoms_spec (ws := wsX12_show) B.pre
  have hown : s.vm.findClass RX12 = some m.cls := findClass_of_methodNamed B.named
  have hlocks := B.notSynchronized
  have i_X12 : ∀ w ∈ wsX120, w ∈ wsX12_show := by decide +kernel
  obtain ⟨a1, q0_1, m0_a1, k0_a1⟩ := (hu h0 m_h0).1 1 50 (by rw [k_h0]; rfl)
  have m0_h0 := m_h0
  have k0_h0 := k_h0
  have m_a1 := m0_a1
  have k_a1 := k0_a1
  subst hsz
  have hD := hD0.self (sz := s.heap.size)
  generalize hAe : va_A (PW k u0) s.heap.size = A at hD ⊢
  have hA : ∀ q : Nat, s.heap.size ≤ q → A q := fun q h => by rw [← hAe]; exact Or.inr h
  have hS : va_S A s.heap s.heap [] := va_S.rf
  have hp : PX u0 u0 := PX.rf
  have B4 : ∀ (n4 : Nat) (u : PSt) (H : Heap) (locs : List Loc) (ls : Array Slot) (v1 : Int32) (v2 : Int32), WT u → PX u0 u → va_P D vwCl (PW k u) H → va_D A (PW k u) → va_S A s.heap H locs → (2147483648 - v2.toInt).toNat ≤ n4 → 0 ≤ v1.toInt ∧ v1.toInt ≤ 999 → 0 ≤ v2.toInt ∧ v2.toInt ≤ 12 → lv_has ls 3 [(0, .ref h0), (1, .int v1), (2, .int v2)] → W p l e (headSpec wsX12_show ({ frames := 8, cells := 0, slots := 0, locals := 191 })).room s m ([.ref h0] : List Value).toArray below meth c H locs 0 0 (MQ below (va_Qi (fun r v => WT v ∧ PX u0 v ∧ (True)) (WB D A (PW k)) A) ([.ref h0] : List Value).toArray s 0 0 A) (F0 m 4 ls []) := by
    intro n4
    induction n4 with
    | zero =>
      intro u H locs ls v1 v2 hu hp hP hD hS hn4 g_v1 g_v2 hl
      exact absurd hn4 (by have := Int32.toInt_lt v2; have := Int32.le_toInt v2; omega)
    | succ n4 ih4 =>
      intro u H locs ls v1 v2 hu hp hP hD hS hn4 g_v1 g_v2 hl
      refine lv_iload_n hx hb dX12_show_4 rfl (lv_at hl 2 rfl) ?_
      refine lv_aload_n hx hb dX12_show_5 rfl (lv_at hl 0 rfl) ?_
      have k_h0 : u.2.1 h0 = 12 := (hp h0 m0_h0).2.1.trans k0_h0
      have m_h0 : h0 ∈ u.1 := (hp h0 m0_h0).1
      have k_a1 : u.2.1 a1 = 50 := (hp a1 m0_a1).2.1.trans k0_a1
      have m_a1 : a1 ∈ u.1 := (hp a1 m0_a1).1
      refine pget (ci := 12) (v := va_rf (u.2.2.2.2 h0 1)) (C := RX12) (T := TX12) (N := 34) hx hb hts i_X12 hown hK hP m_h0 (cF12 k_h0) rfl 1 (by decide) (hts (.fieldLink RX12 13 "BellowsRowModel" "world" "[I") (by decide +kernel)) (fun _ h9 => h9) rfl dX12_show_6 ?_
      refine W.eq (g2 := F0 m 9 ls [.ref a1, .int v2]) (by rw [(((hp h0 m0_h0).2.2.2.2.2.1 k0_h0 1).trans q0_1)]; rfl) ?_
      refine lv_iconst (v := 2) hx hb dX12_show_9 (by decide) ?_
      refine palI hx hb hK hP m_a1 (cF50 k_a1) 1 rfl (vp_in_iff.mpr (by decide)) dX12_show_10 ?_
      refine lv_topi (fun x1 ex1 => ?_)
      have tx1 : x1.toInt = (u.2.2.1 a1 2).toInt := congrArg Int32.toInt ex1
      have g2 : 0 ≤ x1.toInt ∧ x1.toInt ≤ 12 := by have g : okI (u.2.1 a1) (2) (u.2.2.1 a1 (2)) := (hu a1 m_a1).2.2.2 (2); rw [k_a1, ← (show x1 = u.2.2.1 a1 (2) from ex1)] at g; have g : okW (2) x1 := g; unfold okW at g; (try simp only [i_lt, i_le, i_eq, Int32.toInt_toInt64, Int32.reduceToInt, Int64.reduceToInt, true_and, and_true, false_and, and_false, false_or, or_false, true_or, or_true, not_true_eq_false, not_false_eq_true, ne_eq, forall_const, true_implies, false_implies, implies_true] at g_v1 g_v2 hn4 tx1 g ⊢) <;> omega
      refine lv_icmp_ge (tgt := 39) hx hb dX12_show_11 (by decide) (fun c3 => ?_) (fun c3 => ?_)
      · refine lv_iload_n hx hb dX12_show_39 rfl (lv_at hl 1 rfl) ?_
        exact W.iret (v := v1) hx hb hr (fun t ht hW => ⟨⟨v1, u, rfl, ⟨hu, hp, trivial⟩, by rw [ht]; exact hP, hD⟩, hS.F ht⟩) hS.2.2 dX12_show_40
      · refine lv_aload_n hx hb dX12_show_14 rfl (lv_at hl 0 rfl) ?_
        refine lv_iload_n hx hb dX12_show_15 rfl (lv_at hl 2 rfl) ?_
        refine wiV (C := RX12) (As := [.int v2]) (rest := []) ⟨hx, hb, hml, hown, hts⟩ (fun sz => t_X12_goesOf l D k u hu h0 m_h0 k_h0 v2 (by (try simp only [i_lt, i_le, i_eq, Int32.toInt_toInt64, Int32.reduceToInt, Int64.reduceToInt, true_and, and_true, false_and, and_false, false_or, or_false, true_or, or_true, not_true_eq_false, not_false_eq_true, ne_eq, forall_const, true_implies, false_implies, implies_true] at g_v1 g_v2 hn4 tx1 g2 c3 ⊢) <;> omega) sz) (cwV 1 hts gX12_show_X12_goesOf rfl rfl rfl (by decide +kernel) ⟨Nat.le_of_ble_eq_true rfl, Nat.le_of_ble_eq_true rfl⟩) hP hK hD hN hS hA (precv hK hP m_h0 (cF12 k_h0) rfl) rfl hl.1 rfl (Nat.le_of_ble_eq_true rfl) dX12_show_16 ⟨Nat.le_of_ble_eq_true rfl, Nat.le_of_ble_eq_true rfl⟩ (fun r4 u5 H locs hqu5 hP hD hS => ?_)
        obtain ⟨hu, hxu5, hr4⟩ := hqu5
        have hp := PX.trans hp hxu5
        refine lv_iconst (v := (-1)) hx hb dX12_show_19 (by decide) ?_
        refine lv_icmp_eq (tgt := 33) hx hb dX12_show_20 (by decide) (fun c6 => ?_) (fun c6 => ?_)
        · obtain ⟨x7, ex7⟩ : ∃ y : Int32, y = v2 + 1 := ⟨_, rfl⟩
          have tx7 : x7.toInt = v2.toInt + 1 := by rw [ex7]; exact i_add (b := 1) (by (try simp only [i_lt, i_le, i_eq, Int32.toInt_toInt64, Int32.reduceToInt, Int64.reduceToInt, true_and, and_true, false_and, and_false, false_or, or_false, true_or, or_true, not_true_eq_false, not_false_eq_true, ne_eq, forall_const, true_implies, false_implies, implies_true] at g_v1 g_v2 hn4 tx1 g2 c3 c6 ⊢) <;> omega) (by (try simp only [i_lt, i_le, i_eq, Int32.toInt_toInt64, Int32.reduceToInt, Int64.reduceToInt, true_and, and_true, false_and, and_false, false_or, or_false, true_or, or_true, not_true_eq_false, not_false_eq_true, ne_eq, forall_const, true_implies, false_implies, implies_true] at g_v1 g_v2 hn4 tx1 g2 c3 c6 ⊢) <;> omega)
          refine lv_iinc (v := x7) (lv' := [(2, .int x7), (0, .ref h0), (1, .int v1)]) hx hb dX12_show_33 hl (k := 2) rfl (by rw [ex7]; rfl) (by decide) rfl (fun ls hl => ?_)
          refine lv_goto (tgt := 4) hx hb dX12_show_36 (by decide) ?_
          exact ih4 _ _ _ ls v1 x7 hu hp hP hD hS (by (try simp only [i_lt, i_le, i_eq, Int32.toInt_toInt64, Int32.reduceToInt, Int64.reduceToInt, true_and, and_true, false_and, and_false, false_or, or_false, true_or, or_true, not_true_eq_false, not_false_eq_true, ne_eq, forall_const, true_implies, false_implies, implies_true] at g_v1 g_v2 hn4 tx1 g2 c3 c6 tx7 ⊢) <;> omega) (by (try simp only [i_lt, i_le, i_eq, Int32.toInt_toInt64, Int32.reduceToInt, Int64.reduceToInt, true_and, and_true, false_and, and_false, false_or, or_false, true_or, or_true, not_true_eq_false, not_false_eq_true, ne_eq, forall_const, true_implies, false_implies, implies_true] at g_v1 g_v2 hn4 tx1 g2 c3 c6 tx7 ⊢) <;> omega) (by (try simp only [i_lt, i_le, i_eq, Int32.toInt_toInt64, Int32.reduceToInt, Int64.reduceToInt, true_and, and_true, false_and, and_false, false_or, or_false, true_or, or_true, not_true_eq_false, not_false_eq_true, ne_eq, forall_const, true_implies, false_implies, implies_true] at g_v1 g_v2 hn4 tx1 g2 c3 c6 tx7 ⊢) <;> omega) (lv_sub hl [1, 2, 0] rfl)
        · refine lv_iload_n hx hb dX12_show_23 rfl (lv_at hl 1 rfl) ?_
          refine lv_aload_n hx hb dX12_show_24 rfl (lv_at hl 0 rfl) ?_
          refine lv_iload_n hx hb dX12_show_25 rfl (lv_at hl 2 rfl) ?_
          have k_h0 : u5.2.1 h0 = 12 := (hp h0 m0_h0).2.1.trans k0_h0
          have m_h0 : h0 ∈ u5.1 := (hp h0 m0_h0).1
          refine wiV (C := RX12) (As := [.int v2]) (rest := [.int v1]) ⟨hx, hb, hml, hown, hts⟩ (fun sz => t_X12_bowsOf l D k u5 hu h0 m_h0 k_h0 v2 (by (try simp only [i_lt, i_le, i_eq, Int32.toInt_toInt64, Int32.reduceToInt, Int64.reduceToInt, true_and, and_true, false_and, and_false, false_or, or_false, true_or, or_true, not_true_eq_false, not_false_eq_true, ne_eq, forall_const, true_implies, false_implies, implies_true] at g_v1 g_v2 hn4 tx1 g2 c3 c6 ⊢) <;> omega) sz) (cwV 1 hts gX12_show_X12_bowsOf rfl rfl rfl (by decide +kernel) ⟨Nat.le_of_ble_eq_true rfl, Nat.le_of_ble_eq_true rfl⟩) hP hK hD hN hS hA (precv hK hP m_h0 (cF12 k_h0) rfl) rfl hl.1 rfl (Nat.le_of_ble_eq_true rfl) dX12_show_26 ⟨Nat.le_of_ble_eq_true rfl, Nat.le_of_ble_eq_true rfl⟩ (fun r8 u9 H locs hqu9 hP hD hS => ?_)
          obtain ⟨hu, hxu9, hr8⟩ := hqu9
          have hp := PX.trans hp hxu9
          refine va_mmax hx hb (hml.trans hl.1.symm) hown (hts (.methodLink RX12 365 Lib.Math.max.name) (by decide +kernel)) (hts (.static Lib.Math.max.name) (by decide +kernel)) (hts (.initialized "java/lang/Math") (by decide +kernel)) (hts (.code Lib.Math.max.name Lib.Math.max.code 2 (some .int)) (by decide +kernel)) (Nat.le_of_ble_eq_true rfl) (Nat.le_of_ble_eq_true rfl) (Nat.le_of_ble_eq_true rfl) (Nat.le_of_ble_eq_true rfl) dX12_show_29 ?_
          refine lv_topi (fun x10 ex10 => ?_)
          have tx10 : v1.toInt ≤ x10.toInt ∧ r8.toInt ≤ x10.toInt ∧ (x10.toInt = v1.toInt ∨ x10.toInt = r8.toInt) := by rw [ex10]; exact i_max
          refine lv_istore_n (lv' := [(1, .int x10), (0, .ref h0), (2, .int v2)]) hx hb dX12_show_32 rfl hl (by decide) rfl (fun ls hl => ?_)
          obtain ⟨x11, ex11⟩ : ∃ y : Int32, y = v2 + 1 := ⟨_, rfl⟩
          have tx11 : x11.toInt = v2.toInt + 1 := by rw [ex11]; exact i_add (b := 1) (by (try simp only [i_lt, i_le, i_eq, Int32.toInt_toInt64, Int32.reduceToInt, Int64.reduceToInt, true_and, and_true, false_and, and_false, false_or, or_false, true_or, or_true, not_true_eq_false, not_false_eq_true, ne_eq, forall_const, true_implies, false_implies, implies_true] at g_v1 g_v2 hn4 tx1 g2 c3 c6 hr8 tx10 ⊢) <;> omega) (by (try simp only [i_lt, i_le, i_eq, Int32.toInt_toInt64, Int32.reduceToInt, Int64.reduceToInt, true_and, and_true, false_and, and_false, false_or, or_false, true_or, or_true, not_true_eq_false, not_false_eq_true, ne_eq, forall_const, true_implies, false_implies, implies_true] at g_v1 g_v2 hn4 tx1 g2 c3 c6 hr8 tx10 ⊢) <;> omega)
          refine lv_iinc (v := x11) (lv' := [(2, .int x11), (1, .int x10), (0, .ref h0)]) hx hb dX12_show_33 hl (k := 2) rfl (by rw [ex11]; rfl) (by decide) rfl (fun ls hl => ?_)
          refine lv_goto (tgt := 4) hx hb dX12_show_36 (by decide) ?_
          exact ih4 _ _ _ ls x10 x11 hu hp hP hD hS (by (try simp only [i_lt, i_le, i_eq, Int32.toInt_toInt64, Int32.reduceToInt, Int64.reduceToInt, true_and, and_true, false_and, and_false, false_or, or_false, true_or, or_true, not_true_eq_false, not_false_eq_true, ne_eq, forall_const, true_implies, false_implies, implies_true] at g_v1 g_v2 hn4 tx1 g2 c3 c6 hr8 tx10 tx11 ⊢) <;> omega) (by (try simp only [i_lt, i_le, i_eq, Int32.toInt_toInt64, Int32.reduceToInt, Int64.reduceToInt, true_and, and_true, false_and, and_false, false_or, or_false, true_or, or_true, not_true_eq_false, not_false_eq_true, ne_eq, forall_const, true_implies, false_implies, implies_true] at g_v1 g_v2 hn4 tx1 g2 c3 c6 hr8 tx10 tx11 ⊢) <;> omega) (by (try simp only [i_lt, i_le, i_eq, Int32.toInt_toInt64, Int32.reduceToInt, Int64.reduceToInt, true_and, and_true, false_and, and_false, false_or, or_false, true_or, or_true, not_true_eq_false, not_false_eq_true, ne_eq, forall_const, true_implies, false_implies, implies_true] at g_v1 g_v2 hn4 tx1 g2 c3 c6 hr8 tx10 tx11 ⊢) <;> omega) (lv_sub hl [2, 1, 0] rfl)
  have hl := lv_entry ([.ref h0]) (n := 3) (Nat.le_of_ble_eq_true rfl)
  rw [lg_entry_eq]
  generalize (lg_sl ([.ref h0]) ++ List.replicate (3 - (lg_sl ([.ref h0])).length) Slot.unset).toArray = ls at hl ⊢
  have hl : lv_has ls 3 [(0, .ref h0)] := hl
  refine lv_iconst (v := 0) hx hb dX12_show_0 (by decide) ?_
  refine lv_istore_n (lv' := [(1, .int 0), (0, .ref h0)]) hx hb dX12_show_1 rfl hl (by decide) rfl (fun ls hl => ?_)
  refine lv_iconst (v := 0) hx hb dX12_show_2 (by decide) ?_
  refine lv_istore_n (lv' := [(2, .int 0), (1, .int 0), (0, .ref h0)]) hx hb dX12_show_3 rfl hl (by decide) rfl (fun ls hl => ?_)
  exact B4 _ _ _ _ ls 0 0 hu hp hP hD hS (Nat.le_refl _) (by (try simp only [i_lt, i_le, i_eq, Int32.toInt_toInt64, Int32.reduceToInt, Int64.reduceToInt, true_and, and_true, false_and, and_false, false_or, or_false, true_or, or_true, not_true_eq_false, not_false_eq_true, ne_eq, forall_const, true_implies, false_implies, implies_true]) <;> omega) (by (try simp only [i_lt, i_le, i_eq, Int32.toInt_toInt64, Int32.reduceToInt, Int64.reduceToInt, true_and, and_true, false_and, and_false, false_or, or_false, true_or, or_true, not_true_eq_false, not_false_eq_true, ne_eq, forall_const, true_implies, false_implies, implies_true]) <;> omega) (lv_sub hl [2, 1, 0] rfl)
