set_option maxHeartbeats 4000000 in
set_option maxRecDepth 100000 in
theorem t_X12_errs (l : Launch) (D : va_G) (k : Nat → ClassId) (u0 : PSt) (hu : WT u0) (h0 : Nat) (m_h0 : h0 ∈ u0.1) (k_h0 : u0.2.1 h0 = 12) (p1 : Int32) (g_p1 : 1 ≤ p1.toInt ∧ p1.toInt ≤ 3) (sz : Nat) : Met l yX12_errs wsX12_errs ({ frames := 1, cells := 0, slots := 0, locals := 20 }) (PreM D k sz (PW k u0) [.ref h0, .int p1]) (va_Qv (fun v => WT v ∧ PX u0 v ∧ KF u0 v ∧ ((v.2.2.1 h0 12).toInt ≠ 0)) (WB D (va_A (PW k u0) sz) (PW k)) (va_A (PW k u0) sz)) 0 0 (va_A (PW k u0) sz) := by
  refine Met.ofW (cc := cX12_errs) (maxL := 2) (ret := none) (by decide) rfl ?_
  intro p e s m args below meth c s₁ B hml hv
  obtain ⟨rfl, hsz, hP, hK, hD0, hN⟩ := hv
  have hx := B.exec
  have hb := B.bytes
  have hr := B.returns
  have hts := atoms_spec (ws := wsX12_errs) B.pre
  have hown : s.vm.findClass RX12 = some m.cls := findClass_of_methodNamed B.named
  have hlocks := B.notSynchronized
  have i_X12 : ∀ w ∈ wsX120, w ∈ wsX12_errs := by decide +kernel
  have m0_h0 := m_h0
  have k0_h0 := k_h0
  subst hsz
  have hD := hD0.self (sz := s.heap.size)
  generalize hAe : va_A (PW k u0) s.heap.size = A at hD ⊢
  have hA : ∀ q : Nat, s.heap.size ≤ q → A q := fun q h => by rw [← hAe]; exact Or.inr h
  have hS : va_S A s.heap s.heap [] := va_S.rf
  have hp : PX u0 u0 := PX.rf
  have hkf : KF u0 u0 := KF.rf
  have hl := lv_entry ([.ref h0, .int p1]) (n := 2) (Nat.le_of_ble_eq_true rfl)
  rw [lg_entry_eq]
  generalize (lg_sl ([.ref h0, .int p1]) ++ List.replicate (2 - (lg_sl ([.ref h0, .int p1])).length) Slot.unset).toArray = ls at hl ⊢
  have hl : lv_has ls 2 [(0, .ref h0), (1, .int p1)] := hl
  refine lv_aload_n hx hb dX12_errs_0 rfl (lv_at hl 0 rfl) ?_
  refine rvi (C := RX12) (As := []) (rest := []) ⟨hx, hb, hml, hown, hts⟩ (t_X12_good l D k u0 hu h0 m_h0 k_h0 ) (cwV 0 hts gX12_errs_X12_good rfl rfl rfl (by decide +kernel) ⟨Nat.le_of_ble_eq_true rfl, Nat.le_of_ble_eq_true rfl⟩) hP hK (precv hK hP m_h0 (cF12 k_h0) rfl) rfl hl.1 rfl (Nat.le_of_ble_eq_true rfl) dX12_errs_1 ⟨Nat.le_of_ble_eq_true rfl, Nat.le_of_ble_eq_true rfl⟩ (fun r1 hr1 => ?_)
  refine lv_if_ne (tgt := 8) hx hb dX12_errs_4 (by decide) (fun c2 => ?_) (fun c2 => ?_)
  · have eb3 : r1.toInt = 1 := by rcases hr1 with ⟨q, -⟩ | ⟨q, -⟩; exact absurd (i_eq.mpr q) c2; exact q
    have fb3 : (u0.2.2.1 h0 12).toInt = 0 := by rcases hr1 with ⟨q, r⟩ | ⟨q, r⟩; exact absurd q (by omega); exact r
    clear hr1
    refine lv_aload_n hx hb dX12_errs_8 rfl (lv_at hl 0 rfl) ?_
    refine lv_iload_n hx hb dX12_errs_9 rfl (lv_at hl 1 rfl) ?_
    refine pput (u' := pSI u0 h0 12 p1) (ci := 12) (v := .int p1) (ty := .int) (C := RX12) (T := TX12) (N := 34) hx hb hts i_X12 tyX12 tyX12_ok nmX12 hown hK hP hD hS m_h0 (cF12 k_h0) rfl 12 (by decide) (hts (.fieldLink RX12 119 "BellowsRowModel" "faultKind" "I") (by decide +kernel)) (fun _ h9 => h9) rfl (by decide +kernel) rfl rfl (Nat.le_of_ble_eq_true rfl) rfl (sF12_12 k_h0 p1) dX12_errs_10 (fun H locs hP hD hS => ?_)
    have hu := WT.setI (a := h0) (s := 12) (v := p1) hu (by rw [k_h0]; exact trivial)
    have hkf := KF.setI (a := h0) (s := 12) (v := p1) hkf hp (by rw [k_h0]; decide)
    have hp := PX.setI (a := h0) (s := 12) (v := p1) hp (by rw [k_h0]; decide)
    obtain ⟨u4, hu4⟩ : ∃ z, z = pSI u0 h0 12 p1 := ⟨_, rfl⟩
    rw [← hu4] at hP hD hu hp hkf
    have w5 : (u4.2.2.1 h0 12).toInt = p1.toInt := by rw [hu4]; exact congrArg Int32.toInt (if_pos ⟨rfl, rfl⟩)
    refine lv_aload_n hx hb dX12_errs_13 rfl (lv_at hl 0 rfl) ?_
    refine lv_aload_n hx hb dX12_errs_14 rfl (lv_at hl 0 rfl) ?_
    have k_h0 : u4.2.1 h0 = 12 := (hp h0 m0_h0).2.1.trans k0_h0
    have m_h0 : h0 ∈ u4.1 := (hp h0 m0_h0).1
    refine pget (ci := 12) (v := .int (u4.2.2.1 h0 9)) (C := RX12) (T := TX12) (N := 34) hx hb hts i_X12 hown hK hP m_h0 (cF12 k_h0) rfl 9 (by decide) (hts (.fieldLink RX12 95 "BellowsRowModel" "from" "I") (by decide +kernel)) (fun _ h9 => h9) rfl dX12_errs_15 ?_
    have g6 := (hu h0 m_h0).2.2.2 9
    rw [k_h0] at g6
    replace g6 : 0 ≤ (u4.2.2.1 h0 9).toInt ∧ (u4.2.2.1 h0 9).toInt ≤ 1600 := g6
    refine pput (u' := pSI u4 h0 13 (u4.2.2.1 h0 9)) (ci := 12) (v := .int (u4.2.2.1 h0 9)) (ty := .int) (C := RX12) (T := TX12) (N := 34) hx hb hts i_X12 tyX12 tyX12_ok nmX12 hown hK hP hD hS m_h0 (cF12 k_h0) rfl 13 (by decide) (hts (.fieldLink RX12 31 "BellowsRowModel" "faultPlace" "I") (by decide +kernel)) (fun _ h9 => h9) rfl (by decide +kernel) rfl rfl (Nat.le_of_ble_eq_true rfl) rfl (sF12_13 k_h0 (u4.2.2.1 h0 9)) dX12_errs_18 (fun H locs hP hD hS => ?_)
    have hu := WT.setI (a := h0) (s := 13) (v := (u4.2.2.1 h0 9)) hu (by rw [k_h0]; exact trivial)
    have hkf := KF.setI (a := h0) (s := 13) (v := (u4.2.2.1 h0 9)) hkf hp (by rw [k_h0]; decide)
    have hp := PX.setI (a := h0) (s := 13) (v := (u4.2.2.1 h0 9)) hp (by rw [k_h0]; decide)
    obtain ⟨u7, hu7⟩ : ∃ z, z = pSI u4 h0 13 (u4.2.2.1 h0 9) := ⟨_, rfl⟩
    rw [← hu7] at hP hD hu hp hkf
    have w8 : (u7.2.2.1 h0 12).toInt = (u4.2.2.1 h0 12).toInt := by rw [hu7]; exact congrArg Int32.toInt (if_neg (fun q => absurd q.2 (by decide)))
    have w9 : (u7.2.2.1 h0 9).toInt = (u4.2.2.1 h0 9).toInt := by rw [hu7]; exact congrArg Int32.toInt (if_neg (fun q => absurd q.2 (by decide)))
    exact W.vret hx hb hr (fun t ht hW => ⟨⟨u7, rfl, ⟨hu, hp, hkf, (show (u7.2.2.1 h0 12).toInt ≠ 0 from by (try simp only [i_lt, i_le, i_eq, Int32.toInt_toInt64, Int32.reduceToInt, Int64.reduceToInt, true_and, and_true, false_and, and_false, false_or, or_false, true_or, or_true, not_true_eq_false, not_false_eq_true, ne_eq, forall_const, true_implies, false_implies, implies_true] at g_p1 eb3 fb3 w5 g6 w8 w9 ⊢) <;> omega)⟩, by rw [ht]; exact hP, hD⟩, hS.F ht⟩) hS.2.2 dX12_errs_21
  · have eb10 : r1.toInt = 0 := by rcases hr1 with ⟨q, -⟩ | ⟨q, -⟩; exact q; (exact absurd (c2) (fun w => by rw [w] at q; exact absurd q (by decide)))
    have fb10 : (u0.2.2.1 h0 12).toInt ≠ 0 := by rcases hr1 with ⟨q, r⟩ | ⟨q, r⟩; exact r; exact absurd q (by omega)
    clear hr1
    exact W.vret hx hb hr (fun t ht hW => ⟨⟨u0, rfl, ⟨hu, hp, hkf, (show (u0.2.2.1 h0 12).toInt ≠ 0 from by (try simp only [i_lt, i_le, i_eq, Int32.toInt_toInt64, Int32.reduceToInt, Int64.reduceToInt, true_and, and_true, false_and, and_false, false_or, or_false, true_or, or_true, not_true_eq_false, not_false_eq_true, ne_eq, forall_const, true_implies, false_implies, implies_true] at g_p1 eb10 fb10 ⊢) <;> omega)⟩, by rw [ht]; exact hP, hD⟩, hS.F ht⟩) hS.2.2 dX12_errs_7
set_option maxHeartbeats 4000000 in
set_option maxRecDepth 100000 in
theorem t_X12_advance (l : Launch) (D : va_G) (k : Nat → ClassId) (u0 : PSt) (hu : WT u0) (h0 : Nat) (m_h0 : h0 ∈ u0.1) (k_h0 : u0.2.1 h0 = 12) (sz : Nat) : Met l yX12_advance wsX12_advance ({ frames := 1, cells := 0, slots := 0, locals := 25 }) (PreM D k sz (PW k u0) [.ref h0]) (va_Qv (fun v => WT v ∧ PX u0 v ∧ KF u0 v ∧ ((u0.2.2.1 h0 8).toInt ≤ (v.2.2.1 h0 9).toInt ∧ (v.2.2.1 h0 12).toInt = (u0.2.2.1 h0 12).toInt)) (WB D (va_A (PW k u0) sz) (PW k)) (va_A (PW k u0) sz)) 0 0 (va_A (PW k u0) sz) := by
  refine Met.ofW (cc := cX12_advance) (maxL := 2) (ret := none) (by decide) rfl ?_
  intro p e s m args below meth c s₁ B hml hv
  obtain ⟨rfl, hsz, hP, hK, hD0, hN⟩ := hv
  have hx := B.exec
  have hb := B.bytes
  have hr := B.returns
  have hts := atoms_spec (ws := wsX12_advance) B.pre
  have hown : s.vm.findClass RX12 = some m.cls := findClass_of_methodNamed B.named
  have hlocks := B.notSynchronized
  have i_X12 : ∀ w ∈ wsX120, w ∈ wsX12_advance := by decide +kernel
  have m0_h0 := m_h0
  have k0_h0 := k_h0
  subst hsz
  have hD := hD0.self (sz := s.heap.size)
  generalize hAe : va_A (PW k u0) s.heap.size = A at hD ⊢
  have hA : ∀ q : Nat, s.heap.size ≤ q → A q := fun q h => by rw [← hAe]; exact Or.inr h
  have hS : va_S A s.heap s.heap [] := va_S.rf
  have hp : PX u0 u0 := PX.rf
  have hkf : KF u0 u0 := KF.rf
  have B83 : ∀ (n83 : Nat) (u : PSt) (H : Heap) (locs : List Loc) (ls : Array Slot), WT u → PX u0 u → KF u0 u → va_P D vwCl (PW k u) H → va_D A (PW k u) → va_S A s.heap H locs → (1600 - (u.2.2.1 h0 8).toInt).toNat + 1 ≤ n83 → ((u0.2.2.1 h0 8).toInt ≤ (u.2.2.1 h0 9).toInt) → ((u.2.2.1 h0 12).toInt = (u0.2.2.1 h0 12).toInt) → lv_has ls 2 [(0, .ref h0)] → W p l e (headSpec wsX12_advance ({ frames := 1, cells := 0, slots := 0, locals := 25 })).room s m ([.ref h0] : List Value).toArray below meth c H locs 0 0 (MQ below (va_Qv (fun v => WT v ∧ PX u0 v ∧ KF u0 v ∧ ((u0.2.2.1 h0 8).toInt ≤ (v.2.2.1 h0 9).toInt ∧ (v.2.2.1 h0 12).toInt = (u0.2.2.1 h0 12).toInt)) (WB D A (PW k)) A) ([.ref h0] : List Value).toArray s 0 0 A) (F0 m 83 ls []) := by
    intro n83
    induction n83 with
    | zero =>
      intro u H locs ls  hu hp hkf hP hD hS hn83 ex0 ex1 hl
      exact absurd hn83 (by omega)
    | succ n83 ih83 =>
      intro u H locs ls  hu hp hkf hP hD hS hn83 ex0 ex1 hl
      refine lv_aload_n hx hb dX12_advance_83 rfl (lv_at hl 0 rfl) ?_
      refine lv_aload_n hx hb dX12_advance_84 rfl (lv_at hl 0 rfl) ?_
      have k_h0 : u.2.1 h0 = 12 := (hp h0 m0_h0).2.1.trans k0_h0
      have m_h0 : h0 ∈ u.1 := (hp h0 m0_h0).1
      refine pget (ci := 12) (v := .int (u.2.2.1 h0 8)) (C := RX12) (T := TX12) (N := 34) hx hb hts i_X12 hown hK hP m_h0 (cF12 k_h0) rfl 8 (by decide) (hts (.fieldLink RX12 88 "BellowsRowModel" "at" "I") (by decide +kernel)) (fun _ h9 => h9) rfl dX12_advance_85 ?_
      have g1 := (hu h0 m_h0).2.2.2 8
      rw [k_h0] at g1
      replace g1 : 0 ≤ (u.2.2.1 h0 8).toInt ∧ (u.2.2.1 h0 8).toInt ≤ 1600 := g1
      refine rvi (C := RX12) (As := [.int (u.2.2.1 h0 8)]) (rest := []) ⟨hx, hb, hml, hown, hts⟩ (t_X12_see l D k u hu h0 m_h0 k_h0 (u.2.2.1 h0 8) (by (try simp only [i_lt, i_le, i_eq, Int32.toInt_toInt64, Int32.reduceToInt, Int64.reduceToInt, true_and, and_true, false_and, and_false, false_or, or_false, true_or, or_true, not_true_eq_false, not_false_eq_true, ne_eq, forall_const, true_implies, false_implies, implies_true] at ex0 ex1 hn83 g1 ⊢) <;> omega)) (cwV 1 hts gX12_advance_X12_see rfl rfl rfl (by decide +kernel) ⟨Nat.le_of_ble_eq_true rfl, Nat.le_of_ble_eq_true rfl⟩) hP hK (precv hK hP m_h0 (cF12 k_h0) rfl) rfl hl.1 rfl (Nat.le_of_ble_eq_true rfl) dX12_advance_88 ⟨Nat.le_of_ble_eq_true rfl, Nat.le_of_ble_eq_true rfl⟩ (fun r2 hr2 => ?_)
      refine lv_i2l hx hb dX12_advance_91 rfl ?_
      refine lv_topl (fun x3 ex3 => ?_)
      have tx3 : x3.toInt = r2.toInt := by rw [ex3]; exact Int32.toInt_toInt64 _
      refine lv_ldc2 (own := RX12) (v := 97) hx hb hown (hts (.constantLong RX12 101 (97)) (by decide +kernel)) dX12_advance_92 ?_
      refine lv_ldc2 (own := RX12) (v := 122) hx hb hown (hts (.constantLong RX12 103 (122)) (by decide +kernel)) dX12_advance_95 ?_
      refine psi (As := [.long x3, .long 97, .long 122]) (rest := []) ⟨hx, hb, hml, hown, hts⟩ (t_X12_in l D k x3 97 122) (va_cwS 3 hts gX12_advance_X12_in rfl rfl rfl (by decide +kernel) ⟨Nat.le_of_ble_eq_true rfl, Nat.le_of_ble_eq_true rfl⟩) hK rfl hl.1 rfl (Nat.le_of_ble_eq_true rfl) dX12_advance_98 ⟨Nat.le_of_ble_eq_true rfl, Nat.le_of_ble_eq_true rfl⟩ (fun r4 hr4 => ?_)
      refine lv_if_eq (tgt := 117) hx hb dX12_advance_101 (by decide) (fun c5 => ?_) (fun c5 => ?_)
      · have eb6 : r4.toInt = 0 := by rcases hr4 with ⟨q, -⟩ | ⟨q, -⟩; exact q; (exact absurd (c5) (fun w => by rw [w] at q; exact absurd q (by decide)))
        have fb6 : (x3.toInt < (97 : Int64).toInt ∨ (122 : Int64).toInt < x3.toInt) := by rcases hr4 with ⟨q, r⟩ | ⟨q, r⟩; exact r; exact absurd q (by omega)
        clear hr4
        refine lv_aload_n hx hb dX12_advance_117 rfl (lv_at hl 0 rfl) ?_
        refine lv_iconst (v := 1) hx hb dX12_advance_118 (by decide) ?_
        refine pput (u' := pSI u h0 10 1) (ci := 12) (v := .int 1) (ty := .int) (C := RX12) (T := TX12) (N := 34) hx hb hts i_X12 tyX12 tyX12_ok nmX12 hown hK hP hD hS m_h0 (cF12 k_h0) rfl 10 (by decide) (hts (.fieldLink RX12 98 "BellowsRowModel" "token" "I") (by decide +kernel)) (fun _ h9 => h9) rfl (by decide +kernel) rfl rfl (Nat.le_of_ble_eq_true rfl) rfl (sF12_10 k_h0 1) dX12_advance_119 (fun H locs hP hD hS => ?_)
        have hu := WT.setI (a := h0) (s := 10) (v := 1) hu (by rw [k_h0]; exact trivial)
        have hkf := KF.setI (a := h0) (s := 10) (v := 1) hkf hp (by rw [k_h0]; decide)
        have hp := PX.setI (a := h0) (s := 10) (v := 1) hp (by rw [k_h0]; decide)
        obtain ⟨u7, hu7⟩ : ∃ z, z = pSI u h0 10 1 := ⟨_, rfl⟩
        rw [← hu7] at hP hD hu hp hkf
        have w8 : (u7.2.2.1 h0 9).toInt = (u.2.2.1 h0 9).toInt := by rw [hu7]; exact congrArg Int32.toInt (if_neg (fun q => absurd q.2 (by decide)))
        have w9 : (u7.2.2.1 h0 12).toInt = (u.2.2.1 h0 12).toInt := by rw [hu7]; exact congrArg Int32.toInt (if_neg (fun q => absurd q.2 (by decide)))
        have w10 : (u7.2.2.1 h0 8).toInt = (u.2.2.1 h0 8).toInt := by rw [hu7]; exact congrArg Int32.toInt (if_neg (fun q => absurd q.2 (by decide)))
        refine lv_goto (tgt := 239) hx hb dX12_advance_122 (by decide) ?_
        exact W.vret hx hb hr (fun t ht hW => ⟨⟨u7, rfl, ⟨hu, hp, hkf, (show (u0.2.2.1 h0 8).toInt ≤ (u7.2.2.1 h0 9).toInt ∧ (u7.2.2.1 h0 12).toInt = (u0.2.2.1 h0 12).toInt from by (try simp only [i_lt, i_le, i_eq, Int32.toInt_toInt64, Int32.reduceToInt, Int64.reduceToInt, true_and, and_true, false_and, and_false, false_or, or_false, true_or, or_true, not_true_eq_false, not_false_eq_true, ne_eq, forall_const, true_implies, false_implies, implies_true] at ex0 ex1 hn83 g1 hr2 tx3 eb6 fb6 w8 w9 w10 ⊢) <;> omega)⟩, by rw [ht]; exact hP, hD⟩, hS.F ht⟩) hS.2.2 dX12_advance_239
      · have eb11 : r4.toInt = 1 := by rcases hr4 with ⟨q, -⟩ | ⟨q, -⟩; exact absurd (i_eq.mpr q) c5; exact q
        have fb11 : (97 : Int64).toInt ≤ x3.toInt ∧ x3.toInt ≤ (122 : Int64).toInt := by rcases hr4 with ⟨q, r⟩ | ⟨q, r⟩; exact absurd q (by omega); exact r
        clear hr4
        refine lv_aload_n hx hb dX12_advance_104 rfl (lv_at hl 0 rfl) ?_
        refine lv_dup hx hb dX12_advance_105 rfl ?_
        refine pget (ci := 12) (v := .int (u.2.2.1 h0 8)) (C := RX12) (T := TX12) (N := 34) hx hb hts i_X12 hown hK hP m_h0 (cF12 k_h0) rfl 8 (by decide) (hts (.fieldLink RX12 88 "BellowsRowModel" "at" "I") (by decide +kernel)) (fun _ h9 => h9) rfl dX12_advance_106 ?_
        have g12 := (hu h0 m_h0).2.2.2 8
        rw [k_h0] at g12
        replace g12 : 0 ≤ (u.2.2.1 h0 8).toInt ∧ (u.2.2.1 h0 8).toInt ≤ 1600 := g12
        refine lv_iconst (v := 1) hx hb dX12_advance_109 (by decide) ?_
        refine lv_iadd hx hb dX12_advance_110 ?_
        refine lv_topi (fun x13 ex13 => ?_)
        have tx13 : x13.toInt = (u.2.2.1 h0 8).toInt + (1 : Int32).toInt := by rw [ex13]; exact i_add (by (try simp only [i_lt, i_le, i_eq, Int32.toInt_toInt64, Int32.reduceToInt, Int64.reduceToInt, true_and, and_true, false_and, and_false, false_or, or_false, true_or, or_true, not_true_eq_false, not_false_eq_true, ne_eq, forall_const, true_implies, false_implies, implies_true] at ex0 ex1 hn83 g1 hr2 tx3 eb11 fb11 g12 ⊢) <;> omega) (by (try simp only [i_lt, i_le, i_eq, Int32.toInt_toInt64, Int32.reduceToInt, Int64.reduceToInt, true_and, and_true, false_and, and_false, false_or, or_false, true_or, or_true, not_true_eq_false, not_false_eq_true, ne_eq, forall_const, true_implies, false_implies, implies_true] at ex0 ex1 hn83 g1 hr2 tx3 eb11 fb11 g12 ⊢) <;> omega)
        refine pput (u' := pSI u h0 8 x13) (ci := 12) (v := .int x13) (ty := .int) (C := RX12) (T := TX12) (N := 34) hx hb hts i_X12 tyX12 tyX12_ok nmX12 hown hK hP hD hS m_h0 (cF12 k_h0) rfl 8 (by decide) (hts (.fieldLink RX12 88 "BellowsRowModel" "at" "I") (by decide +kernel)) (fun _ h9 => h9) rfl (by decide +kernel) rfl rfl (Nat.le_of_ble_eq_true rfl) rfl (sF12_8 k_h0 x13) dX12_advance_111 (fun H locs hP hD hS => ?_)
        have hu := WT.setI (a := h0) (s := 8) (v := x13) hu (by rw [k_h0]; exact (show 0 ≤ x13.toInt ∧ x13.toInt ≤ 1600 from by (try simp only [i_lt, i_le, i_eq, Int32.toInt_toInt64, Int32.reduceToInt, Int64.reduceToInt, true_and, and_true, false_and, and_false, false_or, or_false, true_or, or_true, not_true_eq_false, not_false_eq_true, ne_eq, forall_const, true_implies, false_implies, implies_true] at ex0 ex1 hn83 g1 hr2 tx3 eb11 fb11 g12 tx13 ⊢) <;> omega))
        have hkf := KF.setI (a := h0) (s := 8) (v := x13) hkf hp (by rw [k_h0]; decide)
        have hp := PX.setI (a := h0) (s := 8) (v := x13) hp (by rw [k_h0]; decide)
        obtain ⟨u14, hu14⟩ : ∃ z, z = pSI u h0 8 x13 := ⟨_, rfl⟩
        rw [← hu14] at hP hD hu hp hkf
        have w15 : (u14.2.2.1 h0 9).toInt = (u.2.2.1 h0 9).toInt := by rw [hu14]; exact congrArg Int32.toInt (if_neg (fun q => absurd q.2 (by decide)))
        have w16 : (u14.2.2.1 h0 12).toInt = (u.2.2.1 h0 12).toInt := by rw [hu14]; exact congrArg Int32.toInt (if_neg (fun q => absurd q.2 (by decide)))
        have w17 : (u14.2.2.1 h0 8).toInt = x13.toInt := by rw [hu14]; exact congrArg Int32.toInt (if_pos ⟨rfl, rfl⟩)
        refine lv_goto (tgt := 83) hx hb dX12_advance_114 (by decide) ?_
        exact ih83 _ _ _ ls hu hp hkf hP hD hS (by (try simp only [i_lt, i_le, i_eq, Int32.toInt_toInt64, Int32.reduceToInt, Int64.reduceToInt, true_and, and_true, false_and, and_false, false_or, or_false, true_or, or_true, not_true_eq_false, not_false_eq_true, ne_eq, forall_const, true_implies, false_implies, implies_true] at ex0 ex1 hn83 g1 hr2 tx3 eb11 fb11 g12 tx13 w15 w16 w17 ⊢) <;> omega) (by (try simp only [i_lt, i_le, i_eq, Int32.toInt_toInt64, Int32.reduceToInt, Int64.reduceToInt, true_and, and_true, false_and, and_false, false_or, or_false, true_or, or_true, not_true_eq_false, not_false_eq_true, ne_eq, forall_const, true_implies, false_implies, implies_true] at ex0 ex1 hn83 g1 hr2 tx3 eb11 fb11 g12 tx13 w15 w16 w17 ⊢) <;> omega) (by (try simp only [i_lt, i_le, i_eq, Int32.toInt_toInt64, Int32.reduceToInt, Int64.reduceToInt, true_and, and_true, false_and, and_false, false_or, or_false, true_or, or_true, not_true_eq_false, not_false_eq_true, ne_eq, forall_const, true_implies, false_implies, implies_true] at ex0 ex1 hn83 g1 hr2 tx3 eb11 fb11 g12 tx13 w15 w16 w17 ⊢) <;> omega) (lv_sub hl [0] rfl)
  have B144 : ∀ (n144 : Nat) (u : PSt) (H : Heap) (locs : List Loc) (ls : Array Slot), WT u → PX u0 u → KF u0 u → va_P D vwCl (PW k u) H → va_D A (PW k u) → va_S A s.heap H locs → (1600 - (u.2.2.1 h0 8).toInt).toNat + 1 ≤ n144 → ((u0.2.2.1 h0 8).toInt ≤ (u.2.2.1 h0 9).toInt) → ((u.2.2.1 h0 12).toInt = (u0.2.2.1 h0 12).toInt) → lv_has ls 2 [(0, .ref h0)] → W p l e (headSpec wsX12_advance ({ frames := 1, cells := 0, slots := 0, locals := 25 })).room s m ([.ref h0] : List Value).toArray below meth c H locs 0 0 (MQ below (va_Qv (fun v => WT v ∧ PX u0 v ∧ KF u0 v ∧ ((u0.2.2.1 h0 8).toInt ≤ (v.2.2.1 h0 9).toInt ∧ (v.2.2.1 h0 12).toInt = (u0.2.2.1 h0 12).toInt)) (WB D A (PW k)) A) ([.ref h0] : List Value).toArray s 0 0 A) (F0 m 144 ls []) := by
    intro n144
    induction n144 with
    | zero =>
      intro u H locs ls  hu hp hkf hP hD hS hn144 ex0 ex1 hl
      exact absurd hn144 (by omega)
    | succ n144 ih144 =>
      intro u H locs ls  hu hp hkf hP hD hS hn144 ex0 ex1 hl
      refine lv_aload_n hx hb dX12_advance_144 rfl (lv_at hl 0 rfl) ?_
      refine lv_aload_n hx hb dX12_advance_145 rfl (lv_at hl 0 rfl) ?_
      have k_h0 : u.2.1 h0 = 12 := (hp h0 m0_h0).2.1.trans k0_h0
      have m_h0 : h0 ∈ u.1 := (hp h0 m0_h0).1
      refine pget (ci := 12) (v := .int (u.2.2.1 h0 8)) (C := RX12) (T := TX12) (N := 34) hx hb hts i_X12 hown hK hP m_h0 (cF12 k_h0) rfl 8 (by decide) (hts (.fieldLink RX12 88 "BellowsRowModel" "at" "I") (by decide +kernel)) (fun _ h9 => h9) rfl dX12_advance_146 ?_
      have g18 := (hu h0 m_h0).2.2.2 8
      rw [k_h0] at g18
      replace g18 : 0 ≤ (u.2.2.1 h0 8).toInt ∧ (u.2.2.1 h0 8).toInt ≤ 1600 := g18
      refine rvi (C := RX12) (As := [.int (u.2.2.1 h0 8)]) (rest := []) ⟨hx, hb, hml, hown, hts⟩ (t_X12_see l D k u hu h0 m_h0 k_h0 (u.2.2.1 h0 8) (by (try simp only [i_lt, i_le, i_eq, Int32.toInt_toInt64, Int32.reduceToInt, Int64.reduceToInt, true_and, and_true, false_and, and_false, false_or, or_false, true_or, or_true, not_true_eq_false, not_false_eq_true, ne_eq, forall_const, true_implies, false_implies, implies_true] at ex0 ex1 hn144 g18 ⊢) <;> omega)) (cwV 1 hts gX12_advance_X12_see rfl rfl rfl (by decide +kernel) ⟨Nat.le_of_ble_eq_true rfl, Nat.le_of_ble_eq_true rfl⟩) hP hK (precv hK hP m_h0 (cF12 k_h0) rfl) rfl hl.1 rfl (Nat.le_of_ble_eq_true rfl) dX12_advance_149 ⟨Nat.le_of_ble_eq_true rfl, Nat.le_of_ble_eq_true rfl⟩ (fun r19 hr19 => ?_)
      refine lv_i2l hx hb dX12_advance_152 rfl ?_
      refine lv_topl (fun x20 ex20 => ?_)
      have tx20 : x20.toInt = r19.toInt := by rw [ex20]; exact Int32.toInt_toInt64 _
      refine lv_ldc2 (own := RX12) (v := 48) hx hb hown (hts (.constantLong RX12 105 (48)) (by decide +kernel)) dX12_advance_153 ?_
      refine lv_ldc2 (own := RX12) (v := 57) hx hb hown (hts (.constantLong RX12 107 (57)) (by decide +kernel)) dX12_advance_156 ?_
      refine psi (As := [.long x20, .long 48, .long 57]) (rest := []) ⟨hx, hb, hml, hown, hts⟩ (t_X12_in l D k x20 48 57) (va_cwS 3 hts gX12_advance_X12_in rfl rfl rfl (by decide +kernel) ⟨Nat.le_of_ble_eq_true rfl, Nat.le_of_ble_eq_true rfl⟩) hK rfl hl.1 rfl (Nat.le_of_ble_eq_true rfl) dX12_advance_159 ⟨Nat.le_of_ble_eq_true rfl, Nat.le_of_ble_eq_true rfl⟩ (fun r21 hr21 => ?_)
      refine lv_if_eq (tgt := 206) hx hb dX12_advance_162 (by decide) (fun c22 => ?_) (fun c22 => ?_)
      · have eb23 : r21.toInt = 0 := by rcases hr21 with ⟨q, -⟩ | ⟨q, -⟩; exact q; (exact absurd (c22) (fun w => by rw [w] at q; exact absurd q (by decide)))
        have fb23 : (x20.toInt < (48 : Int64).toInt ∨ (57 : Int64).toInt < x20.toInt) := by rcases hr21 with ⟨q, r⟩ | ⟨q, r⟩; exact r; exact absurd q (by omega)
        clear hr21
        refine lv_aload_n hx hb dX12_advance_206 rfl (lv_at hl 0 rfl) ?_
        refine lv_iconst (v := 2) hx hb dX12_advance_207 (by decide) ?_
        refine pput (u' := pSI u h0 10 2) (ci := 12) (v := .int 2) (ty := .int) (C := RX12) (T := TX12) (N := 34) hx hb hts i_X12 tyX12 tyX12_ok nmX12 hown hK hP hD hS m_h0 (cF12 k_h0) rfl 10 (by decide) (hts (.fieldLink RX12 98 "BellowsRowModel" "token" "I") (by decide +kernel)) (fun _ h9 => h9) rfl (by decide +kernel) rfl rfl (Nat.le_of_ble_eq_true rfl) rfl (sF12_10 k_h0 2) dX12_advance_208 (fun H locs hP hD hS => ?_)
        have hu := WT.setI (a := h0) (s := 10) (v := 2) hu (by rw [k_h0]; exact trivial)
        have hkf := KF.setI (a := h0) (s := 10) (v := 2) hkf hp (by rw [k_h0]; decide)
        have hp := PX.setI (a := h0) (s := 10) (v := 2) hp (by rw [k_h0]; decide)
        obtain ⟨u24, hu24⟩ : ∃ z, z = pSI u h0 10 2 := ⟨_, rfl⟩
        rw [← hu24] at hP hD hu hp hkf
        have w25 : (u24.2.2.1 h0 9).toInt = (u.2.2.1 h0 9).toInt := by rw [hu24]; exact congrArg Int32.toInt (if_neg (fun q => absurd q.2 (by decide)))
        have w26 : (u24.2.2.1 h0 12).toInt = (u.2.2.1 h0 12).toInt := by rw [hu24]; exact congrArg Int32.toInt (if_neg (fun q => absurd q.2 (by decide)))
        have w27 : (u24.2.2.1 h0 8).toInt = (u.2.2.1 h0 8).toInt := by rw [hu24]; exact congrArg Int32.toInt (if_neg (fun q => absurd q.2 (by decide)))
        refine lv_goto (tgt := 239) hx hb dX12_advance_211 (by decide) ?_
        exact W.vret hx hb hr (fun t ht hW => ⟨⟨u24, rfl, ⟨hu, hp, hkf, (show (u0.2.2.1 h0 8).toInt ≤ (u24.2.2.1 h0 9).toInt ∧ (u24.2.2.1 h0 12).toInt = (u0.2.2.1 h0 12).toInt from by (try simp only [i_lt, i_le, i_eq, Int32.toInt_toInt64, Int32.reduceToInt, Int64.reduceToInt, true_and, and_true, false_and, and_false, false_or, or_false, true_or, or_true, not_true_eq_false, not_false_eq_true, ne_eq, forall_const, true_implies, false_implies, implies_true] at ex0 ex1 hn144 g18 hr19 tx20 eb23 fb23 w25 w26 w27 ⊢) <;> omega)⟩, by rw [ht]; exact hP, hD⟩, hS.F ht⟩) hS.2.2 dX12_advance_239
      · have eb28 : r21.toInt = 1 := by rcases hr21 with ⟨q, -⟩ | ⟨q, -⟩; exact absurd (i_eq.mpr q) c22; exact q
        have fb28 : (48 : Int64).toInt ≤ x20.toInt ∧ x20.toInt ≤ (57 : Int64).toInt := by rcases hr21 with ⟨q, r⟩ | ⟨q, r⟩; exact absurd q (by omega); exact r
        clear hr21
        refine lv_aload_n hx hb dX12_advance_165 rfl (lv_at hl 0 rfl) ?_
        refine lv_ldc (own := RX12) (v := 99999) hx hb hown (hts (.constant RX12 112 (99999)) (by decide +kernel)) dX12_advance_166 ?_
        refine lv_bipush (v := 10) hx hb dX12_advance_168 (by decide) ?_
        refine lv_aload_n hx hb dX12_advance_170 rfl (lv_at hl 0 rfl) ?_
        refine pget (ci := 12) (v := .int (u.2.2.1 h0 11)) (C := RX12) (T := TX12) (N := 34) hx hb hts i_X12 hown hK hP m_h0 (cF12 k_h0) rfl 11 (by decide) (hts (.fieldLink RX12 109 "BellowsRowModel" "value" "I") (by decide +kernel)) (fun _ h9 => h9) rfl dX12_advance_171 ?_
        refine lv_imul hx hb dX12_advance_174 ?_
        refine lv_topi (fun x29 ex29 => ?_)
        refine lv_aload_n hx hb dX12_advance_175 rfl (lv_at hl 0 rfl) ?_
        refine lv_aload_n hx hb dX12_advance_176 rfl (lv_at hl 0 rfl) ?_
        refine pget (ci := 12) (v := .int (u.2.2.1 h0 8)) (C := RX12) (T := TX12) (N := 34) hx hb hts i_X12 hown hK hP m_h0 (cF12 k_h0) rfl 8 (by decide) (hts (.fieldLink RX12 88 "BellowsRowModel" "at" "I") (by decide +kernel)) (fun _ h9 => h9) rfl dX12_advance_177 ?_
        have g30 := (hu h0 m_h0).2.2.2 8
        rw [k_h0] at g30
        replace g30 : 0 ≤ (u.2.2.1 h0 8).toInt ∧ (u.2.2.1 h0 8).toInt ≤ 1600 := g30
        refine rvi (C := RX12) (As := [.int (u.2.2.1 h0 8)]) (rest := [.int x29, .int 99999, .ref h0]) ⟨hx, hb, hml, hown, hts⟩ (t_X12_see l D k u hu h0 m_h0 k_h0 (u.2.2.1 h0 8) (by (try simp only [i_lt, i_le, i_eq, Int32.toInt_toInt64, Int32.reduceToInt, Int64.reduceToInt, true_and, and_true, false_and, and_false, false_or, or_false, true_or, or_true, not_true_eq_false, not_false_eq_true, ne_eq, forall_const, true_implies, false_implies, implies_true] at ex0 ex1 hn144 g18 hr19 tx20 eb28 fb28 g30 ⊢) <;> omega)) (cwV 1 hts gX12_advance_X12_see rfl rfl rfl (by decide +kernel) ⟨Nat.le_of_ble_eq_true rfl, Nat.le_of_ble_eq_true rfl⟩) hP hK (precv hK hP m_h0 (cF12 k_h0) rfl) rfl hl.1 rfl (Nat.le_of_ble_eq_true rfl) dX12_advance_180 ⟨Nat.le_of_ble_eq_true rfl, Nat.le_of_ble_eq_true rfl⟩ (fun r31 hr31 => ?_)
        refine lv_iadd hx hb dX12_advance_183 ?_
        refine lv_topi (fun x32 ex32 => ?_)
        refine lv_bipush (v := 48) hx hb dX12_advance_184 (by decide) ?_
        refine lv_isub hx hb dX12_advance_186 ?_
        refine lv_topi (fun x33 ex33 => ?_)
        refine va_mmin hx hb (hml.trans hl.1.symm) hown (hts (.methodLink RX12 113 Lib.Math.min.name) (by decide +kernel)) (hts (.static Lib.Math.min.name) (by decide +kernel)) (hts (.initialized "java/lang/Math") (by decide +kernel)) (hts (.code Lib.Math.min.name Lib.Math.min.code 2 (some .int)) (by decide +kernel)) (Nat.le_of_ble_eq_true rfl) (Nat.le_of_ble_eq_true rfl) (Nat.le_of_ble_eq_true rfl) (Nat.le_of_ble_eq_true rfl) dX12_advance_187 ?_
        refine lv_topi (fun x34 ex34 => ?_)
        have tx34 : x34.toInt ≤ (99999 : Int32).toInt ∧ x34.toInt ≤ x33.toInt ∧ (x34.toInt = (99999 : Int32).toInt ∨ x34.toInt = x33.toInt) := by rw [ex34]; exact i_min
        refine pput (u' := pSI u h0 11 x34) (ci := 12) (v := .int x34) (ty := .int) (C := RX12) (T := TX12) (N := 34) hx hb hts i_X12 tyX12 tyX12_ok nmX12 hown hK hP hD hS m_h0 (cF12 k_h0) rfl 11 (by decide) (hts (.fieldLink RX12 109 "BellowsRowModel" "value" "I") (by decide +kernel)) (fun _ h9 => h9) rfl (by decide +kernel) rfl rfl (Nat.le_of_ble_eq_true rfl) rfl (sF12_11 k_h0 x34) dX12_advance_190 (fun H locs hP hD hS => ?_)
        have hu := WT.setI (a := h0) (s := 11) (v := x34) hu (by rw [k_h0]; exact trivial)
        have hkf := KF.setI (a := h0) (s := 11) (v := x34) hkf hp (by rw [k_h0]; decide)
        have hp := PX.setI (a := h0) (s := 11) (v := x34) hp (by rw [k_h0]; decide)
        obtain ⟨u35, hu35⟩ : ∃ z, z = pSI u h0 11 x34 := ⟨_, rfl⟩
        rw [← hu35] at hP hD hu hp hkf
        have w36 : (u35.2.2.1 h0 9).toInt = (u.2.2.1 h0 9).toInt := by rw [hu35]; exact congrArg Int32.toInt (if_neg (fun q => absurd q.2 (by decide)))
        have w37 : (u35.2.2.1 h0 12).toInt = (u.2.2.1 h0 12).toInt := by rw [hu35]; exact congrArg Int32.toInt (if_neg (fun q => absurd q.2 (by decide)))
        have w38 : (u35.2.2.1 h0 11).toInt = x34.toInt := by rw [hu35]; exact congrArg Int32.toInt (if_pos ⟨rfl, rfl⟩)
        have w39 : (u35.2.2.1 h0 8).toInt = (u.2.2.1 h0 8).toInt := by rw [hu35]; exact congrArg Int32.toInt (if_neg (fun q => absurd q.2 (by decide)))
        refine lv_aload_n hx hb dX12_advance_193 rfl (lv_at hl 0 rfl) ?_
        refine lv_dup hx hb dX12_advance_194 rfl ?_
        have k_h0 : u35.2.1 h0 = 12 := (hp h0 m0_h0).2.1.trans k0_h0
        have m_h0 : h0 ∈ u35.1 := (hp h0 m0_h0).1
        refine pget (ci := 12) (v := .int (u35.2.2.1 h0 8)) (C := RX12) (T := TX12) (N := 34) hx hb hts i_X12 hown hK hP m_h0 (cF12 k_h0) rfl 8 (by decide) (hts (.fieldLink RX12 88 "BellowsRowModel" "at" "I") (by decide +kernel)) (fun _ h9 => h9) rfl dX12_advance_195 ?_
        have g40 := (hu h0 m_h0).2.2.2 8
        rw [k_h0] at g40
        replace g40 : 0 ≤ (u35.2.2.1 h0 8).toInt ∧ (u35.2.2.1 h0 8).toInt ≤ 1600 := g40
        refine lv_iconst (v := 1) hx hb dX12_advance_198 (by decide) ?_
        refine lv_iadd hx hb dX12_advance_199 ?_
        refine lv_topi (fun x41 ex41 => ?_)
        have tx41 : x41.toInt = (u35.2.2.1 h0 8).toInt + (1 : Int32).toInt := by rw [ex41]; exact i_add (by (try simp only [i_lt, i_le, i_eq, Int32.toInt_toInt64, Int32.reduceToInt, Int64.reduceToInt, true_and, and_true, false_and, and_false, false_or, or_false, true_or, or_true, not_true_eq_false, not_false_eq_true, ne_eq, forall_const, true_implies, false_implies, implies_true] at ex0 ex1 hn144 g18 hr19 tx20 eb28 fb28 g30 hr31 tx34 w36 w37 w38 w39 g40 ⊢) <;> omega) (by (try simp only [i_lt, i_le, i_eq, Int32.toInt_toInt64, Int32.reduceToInt, Int64.reduceToInt, true_and, and_true, false_and, and_false, false_or, or_false, true_or, or_true, not_true_eq_false, not_false_eq_true, ne_eq, forall_const, true_implies, false_implies, implies_true] at ex0 ex1 hn144 g18 hr19 tx20 eb28 fb28 g30 hr31 tx34 w36 w37 w38 w39 g40 ⊢) <;> omega)
        refine pput (u' := pSI u35 h0 8 x41) (ci := 12) (v := .int x41) (ty := .int) (C := RX12) (T := TX12) (N := 34) hx hb hts i_X12 tyX12 tyX12_ok nmX12 hown hK hP hD hS m_h0 (cF12 k_h0) rfl 8 (by decide) (hts (.fieldLink RX12 88 "BellowsRowModel" "at" "I") (by decide +kernel)) (fun _ h9 => h9) rfl (by decide +kernel) rfl rfl (Nat.le_of_ble_eq_true rfl) rfl (sF12_8 k_h0 x41) dX12_advance_200 (fun H locs hP hD hS => ?_)
        have hu := WT.setI (a := h0) (s := 8) (v := x41) hu (by rw [k_h0]; exact (show 0 ≤ x41.toInt ∧ x41.toInt ≤ 1600 from by (try simp only [i_lt, i_le, i_eq, Int32.toInt_toInt64, Int32.reduceToInt, Int64.reduceToInt, true_and, and_true, false_and, and_false, false_or, or_false, true_or, or_true, not_true_eq_false, not_false_eq_true, ne_eq, forall_const, true_implies, false_implies, implies_true] at ex0 ex1 hn144 g18 hr19 tx20 eb28 fb28 g30 hr31 tx34 w36 w37 w38 w39 g40 tx41 ⊢) <;> omega))
        have hkf := KF.setI (a := h0) (s := 8) (v := x41) hkf hp (by rw [k_h0]; decide)
        have hp := PX.setI (a := h0) (s := 8) (v := x41) hp (by rw [k_h0]; decide)
        obtain ⟨u42, hu42⟩ : ∃ z, z = pSI u35 h0 8 x41 := ⟨_, rfl⟩
        rw [← hu42] at hP hD hu hp hkf
        have w43 : (u42.2.2.1 h0 9).toInt = (u35.2.2.1 h0 9).toInt := by rw [hu42]; exact congrArg Int32.toInt (if_neg (fun q => absurd q.2 (by decide)))
        have w44 : (u42.2.2.1 h0 12).toInt = (u35.2.2.1 h0 12).toInt := by rw [hu42]; exact congrArg Int32.toInt (if_neg (fun q => absurd q.2 (by decide)))
        have w45 : (u42.2.2.1 h0 11).toInt = (u35.2.2.1 h0 11).toInt := by rw [hu42]; exact congrArg Int32.toInt (if_neg (fun q => absurd q.2 (by decide)))
        have w46 : (u42.2.2.1 h0 8).toInt = x41.toInt := by rw [hu42]; exact congrArg Int32.toInt (if_pos ⟨rfl, rfl⟩)
        refine lv_goto (tgt := 144) hx hb dX12_advance_203 (by decide) ?_
        exact ih144 _ _ _ ls hu hp hkf hP hD hS (by (try simp only [i_lt, i_le, i_eq, Int32.toInt_toInt64, Int32.reduceToInt, Int64.reduceToInt, true_and, and_true, false_and, and_false, false_or, or_false, true_or, or_true, not_true_eq_false, not_false_eq_true, ne_eq, forall_const, true_implies, false_implies, implies_true] at ex0 ex1 hn144 g18 hr19 tx20 eb28 fb28 g30 hr31 tx34 w36 w37 w38 w39 g40 tx41 w43 w44 w45 w46 ⊢) <;> omega) (by (try simp only [i_lt, i_le, i_eq, Int32.toInt_toInt64, Int32.reduceToInt, Int64.reduceToInt, true_and, and_true, false_and, and_false, false_or, or_false, true_or, or_true, not_true_eq_false, not_false_eq_true, ne_eq, forall_const, true_implies, false_implies, implies_true] at ex0 ex1 hn144 g18 hr19 tx20 eb28 fb28 g30 hr31 tx34 w36 w37 w38 w39 g40 tx41 w43 w44 w45 w46 ⊢) <;> omega) (by (try simp only [i_lt, i_le, i_eq, Int32.toInt_toInt64, Int32.reduceToInt, Int64.reduceToInt, true_and, and_true, false_and, and_false, false_or, or_false, true_or, or_true, not_true_eq_false, not_false_eq_true, ne_eq, forall_const, true_implies, false_implies, implies_true] at ex0 ex1 hn144 g18 hr19 tx20 eb28 fb28 g30 hr31 tx34 w36 w37 w38 w39 g40 tx41 w43 w44 w45 w46 ⊢) <;> omega) (lv_sub hl [0] rfl)
  have B0 : ∀ (n0 : Nat) (u : PSt) (H : Heap) (locs : List Loc) (ls : Array Slot), WT u → PX u0 u → KF u0 u → va_P D vwCl (PW k u) H → va_D A (PW k u) → va_S A s.heap H locs → (1600 - (u.2.2.1 h0 8).toInt).toNat + 1 ≤ n0 → ((u0.2.2.1 h0 8).toInt ≤ (u.2.2.1 h0 8).toInt) → ((u.2.2.1 h0 12).toInt = (u0.2.2.1 h0 12).toInt) → lv_has ls 2 [(0, .ref h0)] → W p l e (headSpec wsX12_advance ({ frames := 1, cells := 0, slots := 0, locals := 25 })).room s m ([.ref h0] : List Value).toArray below meth c H locs 0 0 (MQ below (va_Qv (fun v => WT v ∧ PX u0 v ∧ KF u0 v ∧ ((u0.2.2.1 h0 8).toInt ≤ (v.2.2.1 h0 9).toInt ∧ (v.2.2.1 h0 12).toInt = (u0.2.2.1 h0 12).toInt)) (WB D A (PW k)) A) ([.ref h0] : List Value).toArray s 0 0 A) (F0 m 0 ls []) := by
    intro n0
    induction n0 with
    | zero =>
      intro u H locs ls  hu hp hkf hP hD hS hn0 ex0 ex1 hl
      exact absurd hn0 (by omega)
    | succ n0 ih0 =>
      intro u H locs ls  hu hp hkf hP hD hS hn0 ex0 ex1 hl
      refine lv_aload_n hx hb dX12_advance_0 rfl (lv_at hl 0 rfl) ?_
      refine lv_aload_n hx hb dX12_advance_1 rfl (lv_at hl 0 rfl) ?_
      have k_h0 : u.2.1 h0 = 12 := (hp h0 m0_h0).2.1.trans k0_h0
      have m_h0 : h0 ∈ u.1 := (hp h0 m0_h0).1
      refine pget (ci := 12) (v := .int (u.2.2.1 h0 8)) (C := RX12) (T := TX12) (N := 34) hx hb hts i_X12 hown hK hP m_h0 (cF12 k_h0) rfl 8 (by decide) (hts (.fieldLink RX12 88 "BellowsRowModel" "at" "I") (by decide +kernel)) (fun _ h9 => h9) rfl dX12_advance_2 ?_
      have g47 := (hu h0 m_h0).2.2.2 8
      rw [k_h0] at g47
      replace g47 : 0 ≤ (u.2.2.1 h0 8).toInt ∧ (u.2.2.1 h0 8).toInt ≤ 1600 := g47
      refine rvi (C := RX12) (As := [.int (u.2.2.1 h0 8)]) (rest := []) ⟨hx, hb, hml, hown, hts⟩ (t_X12_see l D k u hu h0 m_h0 k_h0 (u.2.2.1 h0 8) (by (try simp only [i_lt, i_le, i_eq, Int32.toInt_toInt64, Int32.reduceToInt, Int64.reduceToInt, true_and, and_true, false_and, and_false, false_or, or_false, true_or, or_true, not_true_eq_false, not_false_eq_true, ne_eq, forall_const, true_implies, false_implies, implies_true] at ex0 ex1 hn0 g47 ⊢) <;> omega)) (cwV 1 hts gX12_advance_X12_see rfl rfl rfl (by decide +kernel) ⟨Nat.le_of_ble_eq_true rfl, Nat.le_of_ble_eq_true rfl⟩) hP hK (precv hK hP m_h0 (cF12 k_h0) rfl) rfl hl.1 rfl (Nat.le_of_ble_eq_true rfl) dX12_advance_5 ⟨Nat.le_of_ble_eq_true rfl, Nat.le_of_ble_eq_true rfl⟩ (fun r48 hr48 => ?_)
      refine lv_bipush (v := 32) hx hb dX12_advance_8 (by decide) ?_
      refine lv_icmp_eq (tgt := 26) hx hb dX12_advance_10 (by decide) (fun c49 => ?_) (fun c49 => ?_)
      · refine lv_aload_n hx hb dX12_advance_26 rfl (lv_at hl 0 rfl) ?_
        refine lv_dup hx hb dX12_advance_27 rfl ?_
        refine pget (ci := 12) (v := .int (u.2.2.1 h0 8)) (C := RX12) (T := TX12) (N := 34) hx hb hts i_X12 hown hK hP m_h0 (cF12 k_h0) rfl 8 (by decide) (hts (.fieldLink RX12 88 "BellowsRowModel" "at" "I") (by decide +kernel)) (fun _ h9 => h9) rfl dX12_advance_28 ?_
        have g50 := (hu h0 m_h0).2.2.2 8
        rw [k_h0] at g50
        replace g50 : 0 ≤ (u.2.2.1 h0 8).toInt ∧ (u.2.2.1 h0 8).toInt ≤ 1600 := g50
        refine lv_iconst (v := 1) hx hb dX12_advance_31 (by decide) ?_
        refine lv_iadd hx hb dX12_advance_32 ?_
        refine lv_topi (fun x51 ex51 => ?_)
        have tx51 : x51.toInt = (u.2.2.1 h0 8).toInt + (1 : Int32).toInt := by rw [ex51]; exact i_add (by (try simp only [i_lt, i_le, i_eq, Int32.toInt_toInt64, Int32.reduceToInt, Int64.reduceToInt, true_and, and_true, false_and, and_false, false_or, or_false, true_or, or_true, not_true_eq_false, not_false_eq_true, ne_eq, forall_const, true_implies, false_implies, implies_true] at ex0 ex1 hn0 g47 hr48 c49 g50 ⊢) <;> omega) (by (try simp only [i_lt, i_le, i_eq, Int32.toInt_toInt64, Int32.reduceToInt, Int64.reduceToInt, true_and, and_true, false_and, and_false, false_or, or_false, true_or, or_true, not_true_eq_false, not_false_eq_true, ne_eq, forall_const, true_implies, false_implies, implies_true] at ex0 ex1 hn0 g47 hr48 c49 g50 ⊢) <;> omega)
        refine pput (u' := pSI u h0 8 x51) (ci := 12) (v := .int x51) (ty := .int) (C := RX12) (T := TX12) (N := 34) hx hb hts i_X12 tyX12 tyX12_ok nmX12 hown hK hP hD hS m_h0 (cF12 k_h0) rfl 8 (by decide) (hts (.fieldLink RX12 88 "BellowsRowModel" "at" "I") (by decide +kernel)) (fun _ h9 => h9) rfl (by decide +kernel) rfl rfl (Nat.le_of_ble_eq_true rfl) rfl (sF12_8 k_h0 x51) dX12_advance_33 (fun H locs hP hD hS => ?_)
        have hu := WT.setI (a := h0) (s := 8) (v := x51) hu (by rw [k_h0]; exact (show 0 ≤ x51.toInt ∧ x51.toInt ≤ 1600 from by (try simp only [i_lt, i_le, i_eq, Int32.toInt_toInt64, Int32.reduceToInt, Int64.reduceToInt, true_and, and_true, false_and, and_false, false_or, or_false, true_or, or_true, not_true_eq_false, not_false_eq_true, ne_eq, forall_const, true_implies, false_implies, implies_true] at ex0 ex1 hn0 g47 hr48 c49 g50 tx51 ⊢) <;> omega))
        have hkf := KF.setI (a := h0) (s := 8) (v := x51) hkf hp (by rw [k_h0]; decide)
        have hp := PX.setI (a := h0) (s := 8) (v := x51) hp (by rw [k_h0]; decide)
        obtain ⟨u52, hu52⟩ : ∃ z, z = pSI u h0 8 x51 := ⟨_, rfl⟩
        rw [← hu52] at hP hD hu hp hkf
        have w53 : (u52.2.2.1 h0 9).toInt = (u.2.2.1 h0 9).toInt := by rw [hu52]; exact congrArg Int32.toInt (if_neg (fun q => absurd q.2 (by decide)))
        have w54 : (u52.2.2.1 h0 12).toInt = (u.2.2.1 h0 12).toInt := by rw [hu52]; exact congrArg Int32.toInt (if_neg (fun q => absurd q.2 (by decide)))
        have w55 : (u52.2.2.1 h0 8).toInt = x51.toInt := by rw [hu52]; exact congrArg Int32.toInt (if_pos ⟨rfl, rfl⟩)
        refine lv_goto (tgt := 0) hx hb dX12_advance_36 (by decide) ?_
        exact ih0 _ _ _ ls hu hp hkf hP hD hS (by (try simp only [i_lt, i_le, i_eq, Int32.toInt_toInt64, Int32.reduceToInt, Int64.reduceToInt, true_and, and_true, false_and, and_false, false_or, or_false, true_or, or_true, not_true_eq_false, not_false_eq_true, ne_eq, forall_const, true_implies, false_implies, implies_true] at ex0 ex1 hn0 g47 hr48 c49 g50 tx51 w53 w54 w55 ⊢) <;> omega) (by (try simp only [i_lt, i_le, i_eq, Int32.toInt_toInt64, Int32.reduceToInt, Int64.reduceToInt, true_and, and_true, false_and, and_false, false_or, or_false, true_or, or_true, not_true_eq_false, not_false_eq_true, ne_eq, forall_const, true_implies, false_implies, implies_true] at ex0 ex1 hn0 g47 hr48 c49 g50 tx51 w53 w54 w55 ⊢) <;> omega) (by (try simp only [i_lt, i_le, i_eq, Int32.toInt_toInt64, Int32.reduceToInt, Int64.reduceToInt, true_and, and_true, false_and, and_false, false_or, or_false, true_or, or_true, not_true_eq_false, not_false_eq_true, ne_eq, forall_const, true_implies, false_implies, implies_true] at ex0 ex1 hn0 g47 hr48 c49 g50 tx51 w53 w54 w55 ⊢) <;> omega) (lv_sub hl [0] rfl)
      · refine lv_aload_n hx hb dX12_advance_13 rfl (lv_at hl 0 rfl) ?_
        refine lv_aload_n hx hb dX12_advance_14 rfl (lv_at hl 0 rfl) ?_
        refine pget (ci := 12) (v := .int (u.2.2.1 h0 8)) (C := RX12) (T := TX12) (N := 34) hx hb hts i_X12 hown hK hP m_h0 (cF12 k_h0) rfl 8 (by decide) (hts (.fieldLink RX12 88 "BellowsRowModel" "at" "I") (by decide +kernel)) (fun _ h9 => h9) rfl dX12_advance_15 ?_
        have g56 := (hu h0 m_h0).2.2.2 8
        rw [k_h0] at g56
        replace g56 : 0 ≤ (u.2.2.1 h0 8).toInt ∧ (u.2.2.1 h0 8).toInt ≤ 1600 := g56
        refine rvi (C := RX12) (As := [.int (u.2.2.1 h0 8)]) (rest := []) ⟨hx, hb, hml, hown, hts⟩ (t_X12_see l D k u hu h0 m_h0 k_h0 (u.2.2.1 h0 8) (by (try simp only [i_lt, i_le, i_eq, Int32.toInt_toInt64, Int32.reduceToInt, Int64.reduceToInt, true_and, and_true, false_and, and_false, false_or, or_false, true_or, or_true, not_true_eq_false, not_false_eq_true, ne_eq, forall_const, true_implies, false_implies, implies_true] at ex0 ex1 hn0 g47 hr48 g56 ⊢) <;> omega)) (cwV 1 hts gX12_advance_X12_see rfl rfl rfl (by decide +kernel) ⟨Nat.le_of_ble_eq_true rfl, Nat.le_of_ble_eq_true rfl⟩) hP hK (precv hK hP m_h0 (cF12 k_h0) rfl) rfl hl.1 rfl (Nat.le_of_ble_eq_true rfl) dX12_advance_18 ⟨Nat.le_of_ble_eq_true rfl, Nat.le_of_ble_eq_true rfl⟩ (fun r57 hr57 => ?_)
        refine lv_bipush (v := 10) hx hb dX12_advance_21 (by decide) ?_
        refine lv_icmp_ne (tgt := 39) hx hb dX12_advance_23 (by decide) (fun c58 => ?_) (fun c58 => ?_)
        · refine lv_aload_n hx hb dX12_advance_39 rfl (lv_at hl 0 rfl) ?_
          refine lv_aload_n hx hb dX12_advance_40 rfl (lv_at hl 0 rfl) ?_
          refine pget (ci := 12) (v := .int (u.2.2.1 h0 8)) (C := RX12) (T := TX12) (N := 34) hx hb hts i_X12 hown hK hP m_h0 (cF12 k_h0) rfl 8 (by decide) (hts (.fieldLink RX12 88 "BellowsRowModel" "at" "I") (by decide +kernel)) (fun _ h9 => h9) rfl dX12_advance_41 ?_
          have g59 := (hu h0 m_h0).2.2.2 8
          rw [k_h0] at g59
          replace g59 : 0 ≤ (u.2.2.1 h0 8).toInt ∧ (u.2.2.1 h0 8).toInt ≤ 1600 := g59
          refine pput (u' := pSI u h0 9 (u.2.2.1 h0 8)) (ci := 12) (v := .int (u.2.2.1 h0 8)) (ty := .int) (C := RX12) (T := TX12) (N := 34) hx hb hts i_X12 tyX12 tyX12_ok nmX12 hown hK hP hD hS m_h0 (cF12 k_h0) rfl 9 (by decide) (hts (.fieldLink RX12 95 "BellowsRowModel" "from" "I") (by decide +kernel)) (fun _ h9 => h9) rfl (by decide +kernel) rfl rfl (Nat.le_of_ble_eq_true rfl) rfl (sF12_9 k_h0 (u.2.2.1 h0 8)) dX12_advance_44 (fun H locs hP hD hS => ?_)
          have hu := WT.setI (a := h0) (s := 9) (v := (u.2.2.1 h0 8)) hu (by rw [k_h0]; exact (show 0 ≤ (u.2.2.1 h0 8).toInt ∧ (u.2.2.1 h0 8).toInt ≤ 1600 from by (try simp only [i_lt, i_le, i_eq, Int32.toInt_toInt64, Int32.reduceToInt, Int64.reduceToInt, true_and, and_true, false_and, and_false, false_or, or_false, true_or, or_true, not_true_eq_false, not_false_eq_true, ne_eq, forall_const, true_implies, false_implies, implies_true] at ex0 ex1 hn0 g47 hr48 g56 hr57 g59 ⊢) <;> omega))
          have hkf := KF.setI (a := h0) (s := 9) (v := (u.2.2.1 h0 8)) hkf hp (by rw [k_h0]; decide)
          have hp := PX.setI (a := h0) (s := 9) (v := (u.2.2.1 h0 8)) hp (by rw [k_h0]; decide)
          obtain ⟨u60, hu60⟩ : ∃ z, z = pSI u h0 9 (u.2.2.1 h0 8) := ⟨_, rfl⟩
          rw [← hu60] at hP hD hu hp hkf
          have w61 : (u60.2.2.1 h0 9).toInt = (u.2.2.1 h0 8).toInt := by rw [hu60]; exact congrArg Int32.toInt (if_pos ⟨rfl, rfl⟩)
          have w62 : (u60.2.2.1 h0 12).toInt = (u.2.2.1 h0 12).toInt := by rw [hu60]; exact congrArg Int32.toInt (if_neg (fun q => absurd q.2 (by decide)))
          have w63 : (u60.2.2.1 h0 8).toInt = (u.2.2.1 h0 8).toInt := by rw [hu60]; exact congrArg Int32.toInt (if_neg (fun q => absurd q.2 (by decide)))
          refine lv_aload_n hx hb dX12_advance_47 rfl (lv_at hl 0 rfl) ?_
          refine lv_aload_n hx hb dX12_advance_48 rfl (lv_at hl 0 rfl) ?_
          have k_h0 : u60.2.1 h0 = 12 := (hp h0 m0_h0).2.1.trans k0_h0
          have m_h0 : h0 ∈ u60.1 := (hp h0 m0_h0).1
          refine pget (ci := 12) (v := .int (u60.2.2.1 h0 8)) (C := RX12) (T := TX12) (N := 34) hx hb hts i_X12 hown hK hP m_h0 (cF12 k_h0) rfl 8 (by decide) (hts (.fieldLink RX12 88 "BellowsRowModel" "at" "I") (by decide +kernel)) (fun _ h9 => h9) rfl dX12_advance_49 ?_
          have g64 := (hu h0 m_h0).2.2.2 8
          rw [k_h0] at g64
          replace g64 : 0 ≤ (u60.2.2.1 h0 8).toInt ∧ (u60.2.2.1 h0 8).toInt ≤ 1600 := g64
          refine rvi (C := RX12) (As := [.int (u60.2.2.1 h0 8)]) (rest := []) ⟨hx, hb, hml, hown, hts⟩ (t_X12_see l D k u60 hu h0 m_h0 k_h0 (u60.2.2.1 h0 8) (by (try simp only [i_lt, i_le, i_eq, Int32.toInt_toInt64, Int32.reduceToInt, Int64.reduceToInt, true_and, and_true, false_and, and_false, false_or, or_false, true_or, or_true, not_true_eq_false, not_false_eq_true, ne_eq, forall_const, true_implies, false_implies, implies_true] at ex0 ex1 hn0 g47 hr48 g56 hr57 g59 w61 w62 w63 g64 ⊢) <;> omega)) (cwV 1 hts gX12_advance_X12_see rfl rfl rfl (by decide +kernel) ⟨Nat.le_of_ble_eq_true rfl, Nat.le_of_ble_eq_true rfl⟩) hP hK (precv hK hP m_h0 (cF12 k_h0) rfl) rfl hl.1 rfl (Nat.le_of_ble_eq_true rfl) dX12_advance_52 ⟨Nat.le_of_ble_eq_true rfl, Nat.le_of_ble_eq_true rfl⟩ (fun r65 hr65 => ?_)
          refine lv_istore_n (lv' := [(1, .int r65), (0, .ref h0)]) hx hb dX12_advance_55 rfl hl (by decide) rfl (fun ls hl => ?_)
          refine lv_iload_n hx hb dX12_advance_56 rfl (lv_at hl 0 rfl) ?_
          refine lv_iconst (v := (-1)) hx hb dX12_advance_57 (by decide) ?_
          refine lv_icmp_ne (tgt := 69) hx hb dX12_advance_58 (by decide) (fun c66 => ?_) (fun c66 => ?_)
          · refine lv_iload_n hx hb dX12_advance_69 rfl (lv_at hl 0 rfl) ?_
            refine lv_i2l hx hb dX12_advance_70 rfl ?_
            refine lv_topl (fun x67 ex67 => ?_)
            have tx67 : x67.toInt = r65.toInt := by rw [ex67]; exact Int32.toInt_toInt64 _
            refine lv_ldc2 (own := RX12) (v := 97) hx hb hown (hts (.constantLong RX12 101 (97)) (by decide +kernel)) dX12_advance_71 ?_
            refine lv_ldc2 (own := RX12) (v := 122) hx hb hown (hts (.constantLong RX12 103 (122)) (by decide +kernel)) dX12_advance_74 ?_
            refine psi (As := [.long x67, .long 97, .long 122]) (rest := []) ⟨hx, hb, hml, hown, hts⟩ (t_X12_in l D k x67 97 122) (va_cwS 3 hts gX12_advance_X12_in rfl rfl rfl (by decide +kernel) ⟨Nat.le_of_ble_eq_true rfl, Nat.le_of_ble_eq_true rfl⟩) hK rfl hl.1 rfl (Nat.le_of_ble_eq_true rfl) dX12_advance_77 ⟨Nat.le_of_ble_eq_true rfl, Nat.le_of_ble_eq_true rfl⟩ (fun r68 hr68 => ?_)
            refine lv_if_eq (tgt := 125) hx hb dX12_advance_80 (by decide) (fun c69 => ?_) (fun c69 => ?_)
            · have eb70 : r68.toInt = 0 := by rcases hr68 with ⟨q, -⟩ | ⟨q, -⟩; exact q; (exact absurd (c69) (fun w => by rw [w] at q; exact absurd q (by decide)))
              have fb70 : (x67.toInt < (97 : Int64).toInt ∨ (122 : Int64).toInt < x67.toInt) := by rcases hr68 with ⟨q, r⟩ | ⟨q, r⟩; exact r; exact absurd q (by omega)
              clear hr68
              refine lv_iload_n hx hb dX12_advance_125 rfl (lv_at hl 0 rfl) ?_
              refine lv_i2l hx hb dX12_advance_126 rfl ?_
              refine lv_topl (fun x71 ex71 => ?_)
              have tx71 : x71.toInt = r65.toInt := by rw [ex71]; exact Int32.toInt_toInt64 _
              refine lv_ldc2 (own := RX12) (v := 48) hx hb hown (hts (.constantLong RX12 105 (48)) (by decide +kernel)) dX12_advance_127 ?_
              refine lv_ldc2 (own := RX12) (v := 57) hx hb hown (hts (.constantLong RX12 107 (57)) (by decide +kernel)) dX12_advance_130 ?_
              refine psi (As := [.long x71, .long 48, .long 57]) (rest := []) ⟨hx, hb, hml, hown, hts⟩ (t_X12_in l D k x71 48 57) (va_cwS 3 hts gX12_advance_X12_in rfl rfl rfl (by decide +kernel) ⟨Nat.le_of_ble_eq_true rfl, Nat.le_of_ble_eq_true rfl⟩) hK rfl hl.1 rfl (Nat.le_of_ble_eq_true rfl) dX12_advance_133 ⟨Nat.le_of_ble_eq_true rfl, Nat.le_of_ble_eq_true rfl⟩ (fun r72 hr72 => ?_)
              refine lv_if_eq (tgt := 214) hx hb dX12_advance_136 (by decide) (fun c73 => ?_) (fun c73 => ?_)
              · have eb74 : r72.toInt = 0 := by rcases hr72 with ⟨q, -⟩ | ⟨q, -⟩; exact q; (exact absurd (c73) (fun w => by rw [w] at q; exact absurd q (by decide)))
                have fb74 : (x71.toInt < (48 : Int64).toInt ∨ (57 : Int64).toInt < x71.toInt) := by rcases hr72 with ⟨q, r⟩ | ⟨q, r⟩; exact r; exact absurd q (by omega)
                clear hr72
                refine lv_aload_n hx hb dX12_advance_214 rfl (lv_at hl 1 rfl) ?_
                refine lv_iload_n hx hb dX12_advance_215 rfl (lv_at hl 0 rfl) ?_
                refine lv_bipush (v := 59) hx hb dX12_advance_216 (by decide) ?_
                refine lv_icmp_ne (tgt := 225) hx hb dX12_advance_218 (by decide) (fun c75 => ?_) (fun c75 => ?_)
                · refine lv_iconst (v := 4) hx hb dX12_advance_225 (by decide) ?_
                  refine pput (u' := pSI u60 h0 10 4) (ci := 12) (v := .int 4) (ty := .int) (C := RX12) (T := TX12) (N := 34) hx hb hts i_X12 tyX12 tyX12_ok nmX12 hown hK hP hD hS m_h0 (cF12 k_h0) rfl 10 (by decide) (hts (.fieldLink RX12 98 "BellowsRowModel" "token" "I") (by decide +kernel)) (fun _ h9 => h9) rfl (by decide +kernel) rfl rfl (Nat.le_of_ble_eq_true rfl) rfl (sF12_10 k_h0 4) dX12_advance_226 (fun H locs hP hD hS => ?_)
                  have hu := WT.setI (a := h0) (s := 10) (v := 4) hu (by rw [k_h0]; exact trivial)
                  have hkf := KF.setI (a := h0) (s := 10) (v := 4) hkf hp (by rw [k_h0]; decide)
                  have hp := PX.setI (a := h0) (s := 10) (v := 4) hp (by rw [k_h0]; decide)
                  obtain ⟨u76, hu76⟩ : ∃ z, z = pSI u60 h0 10 4 := ⟨_, rfl⟩
                  rw [← hu76] at hP hD hu hp hkf
                  have w77 : (u76.2.2.1 h0 9).toInt = (u60.2.2.1 h0 9).toInt := by rw [hu76]; exact congrArg Int32.toInt (if_neg (fun q => absurd q.2 (by decide)))
                  have w78 : (u76.2.2.1 h0 12).toInt = (u60.2.2.1 h0 12).toInt := by rw [hu76]; exact congrArg Int32.toInt (if_neg (fun q => absurd q.2 (by decide)))
                  have w79 : (u76.2.2.1 h0 8).toInt = (u60.2.2.1 h0 8).toInt := by rw [hu76]; exact congrArg Int32.toInt (if_neg (fun q => absurd q.2 (by decide)))
                  refine lv_aload_n hx hb dX12_advance_229 rfl (lv_at hl 1 rfl) ?_
                  refine lv_dup hx hb dX12_advance_230 rfl ?_
                  have k_h0 : u76.2.1 h0 = 12 := (hp h0 m0_h0).2.1.trans k0_h0
                  have m_h0 : h0 ∈ u76.1 := (hp h0 m0_h0).1
                  refine pget (ci := 12) (v := .int (u76.2.2.1 h0 8)) (C := RX12) (T := TX12) (N := 34) hx hb hts i_X12 hown hK hP m_h0 (cF12 k_h0) rfl 8 (by decide) (hts (.fieldLink RX12 88 "BellowsRowModel" "at" "I") (by decide +kernel)) (fun _ h9 => h9) rfl dX12_advance_231 ?_
                  have g80 := (hu h0 m_h0).2.2.2 8
                  rw [k_h0] at g80
                  replace g80 : 0 ≤ (u76.2.2.1 h0 8).toInt ∧ (u76.2.2.1 h0 8).toInt ≤ 1600 := g80
                  refine lv_iconst (v := 1) hx hb dX12_advance_234 (by decide) ?_
                  refine lv_iadd hx hb dX12_advance_235 ?_
                  refine lv_topi (fun x81 ex81 => ?_)
                  have tx81 : x81.toInt = (u76.2.2.1 h0 8).toInt + (1 : Int32).toInt := by rw [ex81]; exact i_add (by (try simp only [i_lt, i_le, i_eq, Int32.toInt_toInt64, Int32.reduceToInt, Int64.reduceToInt, true_and, and_true, false_and, and_false, false_or, or_false, true_or, or_true, not_true_eq_false, not_false_eq_true, ne_eq, forall_const, true_implies, false_implies, implies_true] at ex0 ex1 hn0 g47 hr48 g56 hr57 g59 w61 w62 w63 g64 hr65 c66 tx67 eb70 fb70 tx71 eb74 fb74 w77 w78 w79 g80 ⊢) <;> omega) (by (try simp only [i_lt, i_le, i_eq, Int32.toInt_toInt64, Int32.reduceToInt, Int64.reduceToInt, true_and, and_true, false_and, and_false, false_or, or_false, true_or, or_true, not_true_eq_false, not_false_eq_true, ne_eq, forall_const, true_implies, false_implies, implies_true] at ex0 ex1 hn0 g47 hr48 g56 hr57 g59 w61 w62 w63 g64 hr65 c66 tx67 eb70 fb70 tx71 eb74 fb74 w77 w78 w79 g80 ⊢) <;> omega)
                  refine pput (u' := pSI u76 h0 8 x81) (ci := 12) (v := .int x81) (ty := .int) (C := RX12) (T := TX12) (N := 34) hx hb hts i_X12 tyX12 tyX12_ok nmX12 hown hK hP hD hS m_h0 (cF12 k_h0) rfl 8 (by decide) (hts (.fieldLink RX12 88 "BellowsRowModel" "at" "I") (by decide +kernel)) (fun _ h9 => h9) rfl (by decide +kernel) rfl rfl (Nat.le_of_ble_eq_true rfl) rfl (sF12_8 k_h0 x81) dX12_advance_236 (fun H locs hP hD hS => ?_)
                  have hu := WT.setI (a := h0) (s := 8) (v := x81) hu (by rw [k_h0]; exact (show 0 ≤ x81.toInt ∧ x81.toInt ≤ 1600 from by (try simp only [i_lt, i_le, i_eq, Int32.toInt_toInt64, Int32.reduceToInt, Int64.reduceToInt, true_and, and_true, false_and, and_false, false_or, or_false, true_or, or_true, not_true_eq_false, not_false_eq_true, ne_eq, forall_const, true_implies, false_implies, implies_true] at ex0 ex1 hn0 g47 hr48 g56 hr57 g59 w61 w62 w63 g64 hr65 c66 tx67 eb70 fb70 tx71 eb74 fb74 w77 w78 w79 g80 tx81 ⊢) <;> omega))
                  have hkf := KF.setI (a := h0) (s := 8) (v := x81) hkf hp (by rw [k_h0]; decide)
                  have hp := PX.setI (a := h0) (s := 8) (v := x81) hp (by rw [k_h0]; decide)
                  obtain ⟨u82, hu82⟩ : ∃ z, z = pSI u76 h0 8 x81 := ⟨_, rfl⟩
                  rw [← hu82] at hP hD hu hp hkf
                  have w83 : (u82.2.2.1 h0 9).toInt = (u76.2.2.1 h0 9).toInt := by rw [hu82]; exact congrArg Int32.toInt (if_neg (fun q => absurd q.2 (by decide)))
                  have w84 : (u82.2.2.1 h0 12).toInt = (u76.2.2.1 h0 12).toInt := by rw [hu82]; exact congrArg Int32.toInt (if_neg (fun q => absurd q.2 (by decide)))
                  have w85 : (u82.2.2.1 h0 8).toInt = x81.toInt := by rw [hu82]; exact congrArg Int32.toInt (if_pos ⟨rfl, rfl⟩)
                  exact W.vret hx hb hr (fun t ht hW => ⟨⟨u82, rfl, ⟨hu, hp, hkf, (show (u0.2.2.1 h0 8).toInt ≤ (u82.2.2.1 h0 9).toInt ∧ (u82.2.2.1 h0 12).toInt = (u0.2.2.1 h0 12).toInt from by (try simp only [i_lt, i_le, i_eq, Int32.toInt_toInt64, Int32.reduceToInt, Int64.reduceToInt, true_and, and_true, false_and, and_false, false_or, or_false, true_or, or_true, not_true_eq_false, not_false_eq_true, ne_eq, forall_const, true_implies, false_implies, implies_true] at ex0 ex1 hn0 g47 hr48 g56 hr57 g59 w61 w62 w63 g64 hr65 c66 tx67 eb70 fb70 tx71 eb74 fb74 w77 w78 w79 g80 tx81 w83 w84 w85 ⊢) <;> omega)⟩, by rw [ht]; exact hP, hD⟩, hS.F ht⟩) hS.2.2 dX12_advance_239
                · refine lv_iconst (v := 3) hx hb dX12_advance_221 (by decide) ?_
                  refine lv_goto (tgt := 226) hx hb dX12_advance_222 (by decide) ?_
                  refine pput (u' := pSI u60 h0 10 3) (ci := 12) (v := .int 3) (ty := .int) (C := RX12) (T := TX12) (N := 34) hx hb hts i_X12 tyX12 tyX12_ok nmX12 hown hK hP hD hS m_h0 (cF12 k_h0) rfl 10 (by decide) (hts (.fieldLink RX12 98 "BellowsRowModel" "token" "I") (by decide +kernel)) (fun _ h9 => h9) rfl (by decide +kernel) rfl rfl (Nat.le_of_ble_eq_true rfl) rfl (sF12_10 k_h0 3) dX12_advance_226 (fun H locs hP hD hS => ?_)
                  have hu := WT.setI (a := h0) (s := 10) (v := 3) hu (by rw [k_h0]; exact trivial)
                  have hkf := KF.setI (a := h0) (s := 10) (v := 3) hkf hp (by rw [k_h0]; decide)
                  have hp := PX.setI (a := h0) (s := 10) (v := 3) hp (by rw [k_h0]; decide)
                  obtain ⟨u86, hu86⟩ : ∃ z, z = pSI u60 h0 10 3 := ⟨_, rfl⟩
                  rw [← hu86] at hP hD hu hp hkf
                  have w87 : (u86.2.2.1 h0 9).toInt = (u60.2.2.1 h0 9).toInt := by rw [hu86]; exact congrArg Int32.toInt (if_neg (fun q => absurd q.2 (by decide)))
                  have w88 : (u86.2.2.1 h0 12).toInt = (u60.2.2.1 h0 12).toInt := by rw [hu86]; exact congrArg Int32.toInt (if_neg (fun q => absurd q.2 (by decide)))
                  have w89 : (u86.2.2.1 h0 8).toInt = (u60.2.2.1 h0 8).toInt := by rw [hu86]; exact congrArg Int32.toInt (if_neg (fun q => absurd q.2 (by decide)))
                  refine lv_aload_n hx hb dX12_advance_229 rfl (lv_at hl 1 rfl) ?_
                  refine lv_dup hx hb dX12_advance_230 rfl ?_
                  have k_h0 : u86.2.1 h0 = 12 := (hp h0 m0_h0).2.1.trans k0_h0
                  have m_h0 : h0 ∈ u86.1 := (hp h0 m0_h0).1
                  refine pget (ci := 12) (v := .int (u86.2.2.1 h0 8)) (C := RX12) (T := TX12) (N := 34) hx hb hts i_X12 hown hK hP m_h0 (cF12 k_h0) rfl 8 (by decide) (hts (.fieldLink RX12 88 "BellowsRowModel" "at" "I") (by decide +kernel)) (fun _ h9 => h9) rfl dX12_advance_231 ?_
                  have g90 := (hu h0 m_h0).2.2.2 8
                  rw [k_h0] at g90
                  replace g90 : 0 ≤ (u86.2.2.1 h0 8).toInt ∧ (u86.2.2.1 h0 8).toInt ≤ 1600 := g90
                  refine lv_iconst (v := 1) hx hb dX12_advance_234 (by decide) ?_
                  refine lv_iadd hx hb dX12_advance_235 ?_
                  refine lv_topi (fun x91 ex91 => ?_)
                  have tx91 : x91.toInt = (u86.2.2.1 h0 8).toInt + (1 : Int32).toInt := by rw [ex91]; exact i_add (by (try simp only [i_lt, i_le, i_eq, Int32.toInt_toInt64, Int32.reduceToInt, Int64.reduceToInt, true_and, and_true, false_and, and_false, false_or, or_false, true_or, or_true, not_true_eq_false, not_false_eq_true, ne_eq, forall_const, true_implies, false_implies, implies_true] at ex0 ex1 hn0 g47 hr48 g56 hr57 g59 w61 w62 w63 g64 hr65 c66 tx67 eb70 fb70 tx71 eb74 fb74 c75 w87 w88 w89 g90 ⊢) <;> omega) (by (try simp only [i_lt, i_le, i_eq, Int32.toInt_toInt64, Int32.reduceToInt, Int64.reduceToInt, true_and, and_true, false_and, and_false, false_or, or_false, true_or, or_true, not_true_eq_false, not_false_eq_true, ne_eq, forall_const, true_implies, false_implies, implies_true] at ex0 ex1 hn0 g47 hr48 g56 hr57 g59 w61 w62 w63 g64 hr65 c66 tx67 eb70 fb70 tx71 eb74 fb74 c75 w87 w88 w89 g90 ⊢) <;> omega)
                  refine pput (u' := pSI u86 h0 8 x91) (ci := 12) (v := .int x91) (ty := .int) (C := RX12) (T := TX12) (N := 34) hx hb hts i_X12 tyX12 tyX12_ok nmX12 hown hK hP hD hS m_h0 (cF12 k_h0) rfl 8 (by decide) (hts (.fieldLink RX12 88 "BellowsRowModel" "at" "I") (by decide +kernel)) (fun _ h9 => h9) rfl (by decide +kernel) rfl rfl (Nat.le_of_ble_eq_true rfl) rfl (sF12_8 k_h0 x91) dX12_advance_236 (fun H locs hP hD hS => ?_)
                  have hu := WT.setI (a := h0) (s := 8) (v := x91) hu (by rw [k_h0]; exact (show 0 ≤ x91.toInt ∧ x91.toInt ≤ 1600 from by (try simp only [i_lt, i_le, i_eq, Int32.toInt_toInt64, Int32.reduceToInt, Int64.reduceToInt, true_and, and_true, false_and, and_false, false_or, or_false, true_or, or_true, not_true_eq_false, not_false_eq_true, ne_eq, forall_const, true_implies, false_implies, implies_true] at ex0 ex1 hn0 g47 hr48 g56 hr57 g59 w61 w62 w63 g64 hr65 c66 tx67 eb70 fb70 tx71 eb74 fb74 c75 w87 w88 w89 g90 tx91 ⊢) <;> omega))
                  have hkf := KF.setI (a := h0) (s := 8) (v := x91) hkf hp (by rw [k_h0]; decide)
                  have hp := PX.setI (a := h0) (s := 8) (v := x91) hp (by rw [k_h0]; decide)
                  obtain ⟨u92, hu92⟩ : ∃ z, z = pSI u86 h0 8 x91 := ⟨_, rfl⟩
                  rw [← hu92] at hP hD hu hp hkf
                  have w93 : (u92.2.2.1 h0 9).toInt = (u86.2.2.1 h0 9).toInt := by rw [hu92]; exact congrArg Int32.toInt (if_neg (fun q => absurd q.2 (by decide)))
                  have w94 : (u92.2.2.1 h0 12).toInt = (u86.2.2.1 h0 12).toInt := by rw [hu92]; exact congrArg Int32.toInt (if_neg (fun q => absurd q.2 (by decide)))
                  have w95 : (u92.2.2.1 h0 8).toInt = x91.toInt := by rw [hu92]; exact congrArg Int32.toInt (if_pos ⟨rfl, rfl⟩)
                  exact W.vret hx hb hr (fun t ht hW => ⟨⟨u92, rfl, ⟨hu, hp, hkf, (show (u0.2.2.1 h0 8).toInt ≤ (u92.2.2.1 h0 9).toInt ∧ (u92.2.2.1 h0 12).toInt = (u0.2.2.1 h0 12).toInt from by (try simp only [i_lt, i_le, i_eq, Int32.toInt_toInt64, Int32.reduceToInt, Int64.reduceToInt, true_and, and_true, false_and, and_false, false_or, or_false, true_or, or_true, not_true_eq_false, not_false_eq_true, ne_eq, forall_const, true_implies, false_implies, implies_true] at ex0 ex1 hn0 g47 hr48 g56 hr57 g59 w61 w62 w63 g64 hr65 c66 tx67 eb70 fb70 tx71 eb74 fb74 c75 w87 w88 w89 g90 tx91 w93 w94 w95 ⊢) <;> omega)⟩, by rw [ht]; exact hP, hD⟩, hS.F ht⟩) hS.2.2 dX12_advance_239
              · have eb96 : r72.toInt = 1 := by rcases hr72 with ⟨q, -⟩ | ⟨q, -⟩; exact absurd (i_eq.mpr q) c73; exact q
                have fb96 : (48 : Int64).toInt ≤ x71.toInt ∧ x71.toInt ≤ (57 : Int64).toInt := by rcases hr72 with ⟨q, r⟩ | ⟨q, r⟩; exact absurd q (by omega); exact r
                clear hr72
                refine lv_aload_n hx hb dX12_advance_139 rfl (lv_at hl 1 rfl) ?_
                refine lv_iconst (v := 0) hx hb dX12_advance_140 (by decide) ?_
                refine pput (u' := pSI u60 h0 11 0) (ci := 12) (v := .int 0) (ty := .int) (C := RX12) (T := TX12) (N := 34) hx hb hts i_X12 tyX12 tyX12_ok nmX12 hown hK hP hD hS m_h0 (cF12 k_h0) rfl 11 (by decide) (hts (.fieldLink RX12 109 "BellowsRowModel" "value" "I") (by decide +kernel)) (fun _ h9 => h9) rfl (by decide +kernel) rfl rfl (Nat.le_of_ble_eq_true rfl) rfl (sF12_11 k_h0 0) dX12_advance_141 (fun H locs hP hD hS => ?_)
                have hu := WT.setI (a := h0) (s := 11) (v := 0) hu (by rw [k_h0]; exact trivial)
                have hkf := KF.setI (a := h0) (s := 11) (v := 0) hkf hp (by rw [k_h0]; decide)
                have hp := PX.setI (a := h0) (s := 11) (v := 0) hp (by rw [k_h0]; decide)
                obtain ⟨u97, hu97⟩ : ∃ z, z = pSI u60 h0 11 0 := ⟨_, rfl⟩
                rw [← hu97] at hP hD hu hp hkf
                have w98 : (u97.2.2.1 h0 9).toInt = (u60.2.2.1 h0 9).toInt := by rw [hu97]; exact congrArg Int32.toInt (if_neg (fun q => absurd q.2 (by decide)))
                have w99 : (u97.2.2.1 h0 12).toInt = (u60.2.2.1 h0 12).toInt := by rw [hu97]; exact congrArg Int32.toInt (if_neg (fun q => absurd q.2 (by decide)))
                have w100 : (u97.2.2.1 h0 8).toInt = (u60.2.2.1 h0 8).toInt := by rw [hu97]; exact congrArg Int32.toInt (if_neg (fun q => absurd q.2 (by decide)))
                exact B144 _ _ _ _ ls hu hp hkf hP hD hS (Nat.le_refl _) (by (try simp only [i_lt, i_le, i_eq, Int32.toInt_toInt64, Int32.reduceToInt, Int64.reduceToInt, true_and, and_true, false_and, and_false, false_or, or_false, true_or, or_true, not_true_eq_false, not_false_eq_true, ne_eq, forall_const, true_implies, false_implies, implies_true] at ex0 ex1 hn0 g47 hr48 g56 hr57 g59 w61 w62 w63 g64 hr65 c66 tx67 eb70 fb70 tx71 eb96 fb96 w98 w99 w100 ⊢) <;> omega) (by (try simp only [i_lt, i_le, i_eq, Int32.toInt_toInt64, Int32.reduceToInt, Int64.reduceToInt, true_and, and_true, false_and, and_false, false_or, or_false, true_or, or_true, not_true_eq_false, not_false_eq_true, ne_eq, forall_const, true_implies, false_implies, implies_true] at ex0 ex1 hn0 g47 hr48 g56 hr57 g59 w61 w62 w63 g64 hr65 c66 tx67 eb70 fb70 tx71 eb96 fb96 w98 w99 w100 ⊢) <;> omega) (lv_sub hl [1] rfl)
            · have eb101 : r68.toInt = 1 := by rcases hr68 with ⟨q, -⟩ | ⟨q, -⟩; exact absurd (i_eq.mpr q) c69; exact q
              have fb101 : (97 : Int64).toInt ≤ x67.toInt ∧ x67.toInt ≤ (122 : Int64).toInt := by rcases hr68 with ⟨q, r⟩ | ⟨q, r⟩; exact absurd q (by omega); exact r
              clear hr68
              exact B83 _ _ _ _ ls hu hp hkf hP hD hS (Nat.le_refl _) (by (try simp only [i_lt, i_le, i_eq, Int32.toInt_toInt64, Int32.reduceToInt, Int64.reduceToInt, true_and, and_true, false_and, and_false, false_or, or_false, true_or, or_true, not_true_eq_false, not_false_eq_true, ne_eq, forall_const, true_implies, false_implies, implies_true] at ex0 ex1 hn0 g47 hr48 g56 hr57 g59 w61 w62 w63 g64 hr65 c66 tx67 eb101 fb101 ⊢) <;> omega) (by (try simp only [i_lt, i_le, i_eq, Int32.toInt_toInt64, Int32.reduceToInt, Int64.reduceToInt, true_and, and_true, false_and, and_false, false_or, or_false, true_or, or_true, not_true_eq_false, not_false_eq_true, ne_eq, forall_const, true_implies, false_implies, implies_true] at ex0 ex1 hn0 g47 hr48 g56 hr57 g59 w61 w62 w63 g64 hr65 c66 tx67 eb101 fb101 ⊢) <;> omega) (lv_sub hl [1] rfl)
          · refine lv_aload_n hx hb dX12_advance_61 rfl (lv_at hl 1 rfl) ?_
            refine lv_iconst (v := 0) hx hb dX12_advance_62 (by decide) ?_
            refine pput (u' := pSI u60 h0 10 0) (ci := 12) (v := .int 0) (ty := .int) (C := RX12) (T := TX12) (N := 34) hx hb hts i_X12 tyX12 tyX12_ok nmX12 hown hK hP hD hS m_h0 (cF12 k_h0) rfl 10 (by decide) (hts (.fieldLink RX12 98 "BellowsRowModel" "token" "I") (by decide +kernel)) (fun _ h9 => h9) rfl (by decide +kernel) rfl rfl (Nat.le_of_ble_eq_true rfl) rfl (sF12_10 k_h0 0) dX12_advance_63 (fun H locs hP hD hS => ?_)
            have hu := WT.setI (a := h0) (s := 10) (v := 0) hu (by rw [k_h0]; exact trivial)
            have hkf := KF.setI (a := h0) (s := 10) (v := 0) hkf hp (by rw [k_h0]; decide)
            have hp := PX.setI (a := h0) (s := 10) (v := 0) hp (by rw [k_h0]; decide)
            obtain ⟨u102, hu102⟩ : ∃ z, z = pSI u60 h0 10 0 := ⟨_, rfl⟩
            rw [← hu102] at hP hD hu hp hkf
            have w103 : (u102.2.2.1 h0 9).toInt = (u60.2.2.1 h0 9).toInt := by rw [hu102]; exact congrArg Int32.toInt (if_neg (fun q => absurd q.2 (by decide)))
            have w104 : (u102.2.2.1 h0 12).toInt = (u60.2.2.1 h0 12).toInt := by rw [hu102]; exact congrArg Int32.toInt (if_neg (fun q => absurd q.2 (by decide)))
            have w105 : (u102.2.2.1 h0 8).toInt = (u60.2.2.1 h0 8).toInt := by rw [hu102]; exact congrArg Int32.toInt (if_neg (fun q => absurd q.2 (by decide)))
            refine lv_goto (tgt := 239) hx hb dX12_advance_66 (by decide) ?_
            exact W.vret hx hb hr (fun t ht hW => ⟨⟨u102, rfl, ⟨hu, hp, hkf, (show (u0.2.2.1 h0 8).toInt ≤ (u102.2.2.1 h0 9).toInt ∧ (u102.2.2.1 h0 12).toInt = (u0.2.2.1 h0 12).toInt from by (try simp only [i_lt, i_le, i_eq, Int32.toInt_toInt64, Int32.reduceToInt, Int64.reduceToInt, true_and, and_true, false_and, and_false, false_or, or_false, true_or, or_true, not_true_eq_false, not_false_eq_true, ne_eq, forall_const, true_implies, false_implies, implies_true] at ex0 ex1 hn0 g47 hr48 g56 hr57 g59 w61 w62 w63 g64 hr65 c66 w103 w104 w105 ⊢) <;> omega)⟩, by rw [ht]; exact hP, hD⟩, hS.F ht⟩) hS.2.2 dX12_advance_239
        · refine lv_aload_n hx hb dX12_advance_26 rfl (lv_at hl 0 rfl) ?_
          refine lv_dup hx hb dX12_advance_27 rfl ?_
          refine pget (ci := 12) (v := .int (u.2.2.1 h0 8)) (C := RX12) (T := TX12) (N := 34) hx hb hts i_X12 hown hK hP m_h0 (cF12 k_h0) rfl 8 (by decide) (hts (.fieldLink RX12 88 "BellowsRowModel" "at" "I") (by decide +kernel)) (fun _ h9 => h9) rfl dX12_advance_28 ?_
          have g106 := (hu h0 m_h0).2.2.2 8
          rw [k_h0] at g106
          replace g106 : 0 ≤ (u.2.2.1 h0 8).toInt ∧ (u.2.2.1 h0 8).toInt ≤ 1600 := g106
          refine lv_iconst (v := 1) hx hb dX12_advance_31 (by decide) ?_
          refine lv_iadd hx hb dX12_advance_32 ?_
          refine lv_topi (fun x107 ex107 => ?_)
          have tx107 : x107.toInt = (u.2.2.1 h0 8).toInt + (1 : Int32).toInt := by rw [ex107]; exact i_add (by (try simp only [i_lt, i_le, i_eq, Int32.toInt_toInt64, Int32.reduceToInt, Int64.reduceToInt, true_and, and_true, false_and, and_false, false_or, or_false, true_or, or_true, not_true_eq_false, not_false_eq_true, ne_eq, forall_const, true_implies, false_implies, implies_true] at ex0 ex1 hn0 g47 hr48 g56 hr57 c58 g106 ⊢) <;> omega) (by (try simp only [i_lt, i_le, i_eq, Int32.toInt_toInt64, Int32.reduceToInt, Int64.reduceToInt, true_and, and_true, false_and, and_false, false_or, or_false, true_or, or_true, not_true_eq_false, not_false_eq_true, ne_eq, forall_const, true_implies, false_implies, implies_true] at ex0 ex1 hn0 g47 hr48 g56 hr57 c58 g106 ⊢) <;> omega)
          refine pput (u' := pSI u h0 8 x107) (ci := 12) (v := .int x107) (ty := .int) (C := RX12) (T := TX12) (N := 34) hx hb hts i_X12 tyX12 tyX12_ok nmX12 hown hK hP hD hS m_h0 (cF12 k_h0) rfl 8 (by decide) (hts (.fieldLink RX12 88 "BellowsRowModel" "at" "I") (by decide +kernel)) (fun _ h9 => h9) rfl (by decide +kernel) rfl rfl (Nat.le_of_ble_eq_true rfl) rfl (sF12_8 k_h0 x107) dX12_advance_33 (fun H locs hP hD hS => ?_)
          have hu := WT.setI (a := h0) (s := 8) (v := x107) hu (by rw [k_h0]; exact (show 0 ≤ x107.toInt ∧ x107.toInt ≤ 1600 from by (try simp only [i_lt, i_le, i_eq, Int32.toInt_toInt64, Int32.reduceToInt, Int64.reduceToInt, true_and, and_true, false_and, and_false, false_or, or_false, true_or, or_true, not_true_eq_false, not_false_eq_true, ne_eq, forall_const, true_implies, false_implies, implies_true] at ex0 ex1 hn0 g47 hr48 g56 hr57 c58 g106 tx107 ⊢) <;> omega))
          have hkf := KF.setI (a := h0) (s := 8) (v := x107) hkf hp (by rw [k_h0]; decide)
          have hp := PX.setI (a := h0) (s := 8) (v := x107) hp (by rw [k_h0]; decide)
          obtain ⟨u108, hu108⟩ : ∃ z, z = pSI u h0 8 x107 := ⟨_, rfl⟩
          rw [← hu108] at hP hD hu hp hkf
          have w109 : (u108.2.2.1 h0 9).toInt = (u.2.2.1 h0 9).toInt := by rw [hu108]; exact congrArg Int32.toInt (if_neg (fun q => absurd q.2 (by decide)))
          have w110 : (u108.2.2.1 h0 12).toInt = (u.2.2.1 h0 12).toInt := by rw [hu108]; exact congrArg Int32.toInt (if_neg (fun q => absurd q.2 (by decide)))
          have w111 : (u108.2.2.1 h0 8).toInt = x107.toInt := by rw [hu108]; exact congrArg Int32.toInt (if_pos ⟨rfl, rfl⟩)
          refine lv_goto (tgt := 0) hx hb dX12_advance_36 (by decide) ?_
          exact ih0 _ _ _ ls hu hp hkf hP hD hS (by (try simp only [i_lt, i_le, i_eq, Int32.toInt_toInt64, Int32.reduceToInt, Int64.reduceToInt, true_and, and_true, false_and, and_false, false_or, or_false, true_or, or_true, not_true_eq_false, not_false_eq_true, ne_eq, forall_const, true_implies, false_implies, implies_true] at ex0 ex1 hn0 g47 hr48 g56 hr57 c58 g106 tx107 w109 w110 w111 ⊢) <;> omega) (by (try simp only [i_lt, i_le, i_eq, Int32.toInt_toInt64, Int32.reduceToInt, Int64.reduceToInt, true_and, and_true, false_and, and_false, false_or, or_false, true_or, or_true, not_true_eq_false, not_false_eq_true, ne_eq, forall_const, true_implies, false_implies, implies_true] at ex0 ex1 hn0 g47 hr48 g56 hr57 c58 g106 tx107 w109 w110 w111 ⊢) <;> omega) (by (try simp only [i_lt, i_le, i_eq, Int32.toInt_toInt64, Int32.reduceToInt, Int64.reduceToInt, true_and, and_true, false_and, and_false, false_or, or_false, true_or, or_true, not_true_eq_false, not_false_eq_true, ne_eq, forall_const, true_implies, false_implies, implies_true] at ex0 ex1 hn0 g47 hr48 g56 hr57 c58 g106 tx107 w109 w110 w111 ⊢) <;> omega) (lv_sub hl [0] rfl)
  have hl := lv_entry ([.ref h0]) (n := 2) (Nat.le_of_ble_eq_true rfl)
  rw [lg_entry_eq]
  generalize (lg_sl ([.ref h0]) ++ List.replicate (2 - (lg_sl ([.ref h0])).length) Slot.unset).toArray = ls at hl ⊢
  have hl : lv_has ls 2 [(0, .ref h0)] := hl
  exact B0 _ _ _ _ ls hu hp hkf hP hD hS (Nat.le_refl _) (by (try simp only [i_lt, i_le, i_eq, Int32.toInt_toInt64, Int32.reduceToInt, Int64.reduceToInt, true_and, and_true, false_and, and_false, false_or, or_false, true_or, or_true, not_true_eq_false, not_false_eq_true, ne_eq, forall_const, true_implies, false_implies, implies_true]) <;> omega) (by (try simp only [i_lt, i_le, i_eq, Int32.toInt_toInt64, Int32.reduceToInt, Int64.reduceToInt, true_and, and_true, false_and, and_false, false_or, or_false, true_or, or_true, not_true_eq_false, not_false_eq_true, ne_eq, forall_const, true_implies, false_implies, implies_true]) <;> omega) (lv_sub hl [0] rfl)
set_option maxHeartbeats 4000000 in
set_option maxRecDepth 100000 in
theorem t_X12_number (l : Launch) (D : va_G) (k : Nat → ClassId) (u0 : PSt) (hu : WT u0) (h0 : Nat) (m_h0 : h0 ∈ u0.1) (k_h0 : u0.2.1 h0 = 12) (p1 : Int32) (p2 : Int32) (sz : Nat) : Met l yX12_number wsX12_number ({ frames := 2, cells := 0, slots := 0, locals := 46 }) (PreM D k sz (PW k u0) [.ref h0, .int p1, .int p2]) (va_Qi (fun r v => WT v ∧ PX u0 v ∧ KF u0 v ∧ (((v.2.2.1 h0 12).toInt = 0 → ((u0.2.2.1 h0 12).toInt = 0 ∧ (u0.2.2.1 h0 10).toInt = 2 ∧ r.toInt = (u0.2.2.1 h0 11).toInt ∧ p1.toInt ≤ r.toInt ∧ r.toInt ≤ p2.toInt)) ∧ (r.toInt = 0 ∨ (p1.toInt ≤ r.toInt ∧ r.toInt ≤ p2.toInt)))) (WB D (va_A (PW k u0) sz) (PW k)) (va_A (PW k u0) sz)) 0 0 (va_A (PW k u0) sz) := by
  refine Met.ofW (cc := cX12_number) (maxL := 4) (ret := (some .int)) (by decide) rfl ?_
  intro p e s m args below meth c s₁ B hml hv
  obtain ⟨rfl, hsz, hP, hK, hD0, hN⟩ := hv
  have hx := B.exec
  have hb := B.bytes
  have hr := B.returns
  have hts := atoms_spec (ws := wsX12_number) B.pre
  have hown : s.vm.findClass RX12 = some m.cls := findClass_of_methodNamed B.named
  have hlocks := B.notSynchronized
  have i_X12 : ∀ w ∈ wsX120, w ∈ wsX12_number := by decide +kernel
  have m0_h0 := m_h0
  have k0_h0 := k_h0
  subst hsz
  have hD := hD0.self (sz := s.heap.size)
  generalize hAe : va_A (PW k u0) s.heap.size = A at hD ⊢
  have hA : ∀ q : Nat, s.heap.size ≤ q → A q := fun q h => by rw [← hAe]; exact Or.inr h
  have hS : va_S A s.heap s.heap [] := va_S.rf
  have hp : PX u0 u0 := PX.rf
  have hkf : KF u0 u0 := KF.rf
  have hl := lv_entry ([.ref h0, .int p1, .int p2]) (n := 4) (Nat.le_of_ble_eq_true rfl)
  rw [lg_entry_eq]
  generalize (lg_sl ([.ref h0, .int p1, .int p2]) ++ List.replicate (4 - (lg_sl ([.ref h0, .int p1, .int p2])).length) Slot.unset).toArray = ls at hl ⊢
  have hl : lv_has ls 4 [(0, .ref h0), (1, .int p1), (2, .int p2)] := hl
  refine lv_aload_n hx hb dX12_number_0 rfl (lv_at hl 0 rfl) ?_
  refine rvi (C := RX12) (As := []) (rest := []) ⟨hx, hb, hml, hown, hts⟩ (t_X12_good l D k u0 hu h0 m_h0 k_h0 ) (cwV 0 hts gX12_number_X12_good rfl rfl rfl (by decide +kernel) ⟨Nat.le_of_ble_eq_true rfl, Nat.le_of_ble_eq_true rfl⟩) hP hK (precv hK hP m_h0 (cF12 k_h0) rfl) rfl hl.1 rfl (Nat.le_of_ble_eq_true rfl) dX12_number_1 ⟨Nat.le_of_ble_eq_true rfl, Nat.le_of_ble_eq_true rfl⟩ (fun r1 hr1 => ?_)
  refine lv_if_eq (tgt := 20) hx hb dX12_number_4 (by decide) (fun c2 => ?_) (fun c2 => ?_)
  · have eb3 : r1.toInt = 0 := by rcases hr1 with ⟨q, -⟩ | ⟨q, -⟩; exact q; (exact absurd (c2) (fun w => by rw [w] at q; exact absurd q (by decide)))
    have fb3 : (u0.2.2.1 h0 12).toInt ≠ 0 := by rcases hr1 with ⟨q, r⟩ | ⟨q, r⟩; exact r; exact absurd q (by omega)
    clear hr1
    refine lv_aload_n hx hb dX12_number_20 rfl (lv_at hl 0 rfl) ?_
    refine rvi (C := RX12) (As := []) (rest := []) ⟨hx, hb, hml, hown, hts⟩ (t_X12_good l D k u0 hu h0 m_h0 k_h0 ) (cwV 0 hts gX12_number_X12_good rfl rfl rfl (by decide +kernel) ⟨Nat.le_of_ble_eq_true rfl, Nat.le_of_ble_eq_true rfl⟩) hP hK (precv hK hP m_h0 (cF12 k_h0) rfl) rfl hl.1 rfl (Nat.le_of_ble_eq_true rfl) dX12_number_21 ⟨Nat.le_of_ble_eq_true rfl, Nat.le_of_ble_eq_true rfl⟩ (fun r4 hr4 => ?_)
    refine lv_if_eq (tgt := 47) hx hb dX12_number_24 (by decide) (fun c5 => ?_) (fun c5 => ?_)
    · have eb6 : r4.toInt = 0 := by rcases hr4 with ⟨q, -⟩ | ⟨q, -⟩; exact q; (exact absurd (c5) (fun w => by rw [w] at q; exact absurd q (by decide)))
      have fb6 : (u0.2.2.1 h0 12).toInt ≠ 0 := by rcases hr4 with ⟨q, r⟩ | ⟨q, r⟩; exact r; exact absurd q (by omega)
      clear hr4
      refine lv_aload_n hx hb dX12_number_47 rfl (lv_at hl 0 rfl) ?_
      refine rvi (C := RX12) (As := []) (rest := []) ⟨hx, hb, hml, hown, hts⟩ (t_X12_good l D k u0 hu h0 m_h0 k_h0 ) (cwV 0 hts gX12_number_X12_good rfl rfl rfl (by decide +kernel) ⟨Nat.le_of_ble_eq_true rfl, Nat.le_of_ble_eq_true rfl⟩) hP hK (precv hK hP m_h0 (cF12 k_h0) rfl) rfl hl.1 rfl (Nat.le_of_ble_eq_true rfl) dX12_number_48 ⟨Nat.le_of_ble_eq_true rfl, Nat.le_of_ble_eq_true rfl⟩ (fun r7 hr7 => ?_)
      refine lv_if_ne (tgt := 56) hx hb dX12_number_51 (by decide) (fun c8 => ?_) (fun c8 => ?_)
      · have eb9 : r7.toInt = 1 := by rcases hr7 with ⟨q, -⟩ | ⟨q, -⟩; exact absurd (i_eq.mpr q) c8; exact q
        have fb9 : (u0.2.2.1 h0 12).toInt = 0 := by rcases hr7 with ⟨q, r⟩ | ⟨q, r⟩; exact absurd q (by omega); exact r
        clear hr7
        refine lv_aload_n hx hb dX12_number_56 rfl (lv_at hl 0 rfl) ?_
        refine pget (ci := 12) (v := .int (u0.2.2.1 h0 11)) (C := RX12) (T := TX12) (N := 34) hx hb hts i_X12 hown hK hP m_h0 (cF12 k_h0) rfl 11 (by decide) (hts (.fieldLink RX12 109 "BellowsRowModel" "value" "I") (by decide +kernel)) (fun _ h9 => h9) rfl dX12_number_57 ?_
        refine lv_istore_n (lv' := [(3, .int (u0.2.2.1 h0 11)), (0, .ref h0), (1, .int p1), (2, .int p2)]) hx hb dX12_number_60 rfl hl (by decide) rfl (fun ls hl => ?_)
        refine lv_aload_n hx hb dX12_number_61 rfl (lv_at hl 1 rfl) ?_
        refine wvV (C := RX12) (As := []) (rest := []) ⟨hx, hb, hml, hown, hts⟩ (fun sz => t_X12_advance l D k u0 hu h0 m_h0 k_h0  sz) (cwV 0 hts gX12_number_X12_advance rfl rfl rfl (by decide +kernel) ⟨Nat.le_of_ble_eq_true rfl, Nat.le_of_ble_eq_true rfl⟩) hP hK hD hN hS hA (precv hK hP m_h0 (cF12 k_h0) rfl) rfl hl.1 rfl (Nat.le_of_ble_eq_true rfl) dX12_number_62 ⟨Nat.le_of_ble_eq_true rfl, Nat.le_of_ble_eq_true rfl⟩ (fun u11 H locs hqu11 hP hD hS => ?_)
        obtain ⟨hu, hxu11, z12, hr10⟩ := hqu11
        have hkf := KF.trans hkf hp z12
        have hp := PX.trans hp hxu11
        refine lv_iload_n hx hb dX12_number_65 rfl (lv_at hl 0 rfl) ?_
        exact W.iret (v := (u0.2.2.1 h0 11)) hx hb hr (fun t ht hW => ⟨⟨(u0.2.2.1 h0 11), u11, rfl, ⟨hu, hp, hkf, (show ((u11.2.2.1 h0 12).toInt = 0 → ((u0.2.2.1 h0 12).toInt = 0 ∧ (u0.2.2.1 h0 10).toInt = 2 ∧ (u0.2.2.1 h0 11).toInt = (u0.2.2.1 h0 11).toInt ∧ p1.toInt ≤ (u0.2.2.1 h0 11).toInt ∧ (u0.2.2.1 h0 11).toInt ≤ p2.toInt)) ∧ ((u0.2.2.1 h0 11).toInt = 0 ∨ (p1.toInt ≤ (u0.2.2.1 h0 11).toInt ∧ (u0.2.2.1 h0 11).toInt ≤ p2.toInt)) from by (try simp only [i_lt, i_le, i_eq, Int32.toInt_toInt64, Int32.reduceToInt, Int64.reduceToInt, true_and, and_true, false_and, and_false, false_or, or_false, true_or, or_true, not_true_eq_false, not_false_eq_true, ne_eq, forall_const, true_implies, false_implies, implies_true] at eb3 fb3 eb6 fb6 eb9 fb9 hr10 ⊢) <;> omega)⟩, by rw [ht]; exact hP, hD⟩, hS.F ht⟩) hS.2.2 dX12_number_66
      · have eb13 : r7.toInt = 0 := by rcases hr7 with ⟨q, -⟩ | ⟨q, -⟩; exact q; (exact absurd (c8) (fun w => by rw [w] at q; exact absurd q (by decide)))
        have fb13 : (u0.2.2.1 h0 12).toInt ≠ 0 := by rcases hr7 with ⟨q, r⟩ | ⟨q, r⟩; exact r; exact absurd q (by omega)
        clear hr7
        refine lv_iconst (v := 0) hx hb dX12_number_54 (by decide) ?_
        exact W.iret (v := 0) hx hb hr (fun t ht hW => ⟨⟨0, u0, rfl, ⟨hu, hp, hkf, (show ((u0.2.2.1 h0 12).toInt = 0 → ((u0.2.2.1 h0 12).toInt = 0 ∧ (u0.2.2.1 h0 10).toInt = 2 ∧ (0 : Int) = (u0.2.2.1 h0 11).toInt ∧ p1.toInt ≤ (0 : Int) ∧ (0 : Int) ≤ p2.toInt)) ∧ ((0 : Int) = 0 ∨ (p1.toInt ≤ (0 : Int) ∧ (0 : Int) ≤ p2.toInt)) from by (try simp only [i_lt, i_le, i_eq, Int32.toInt_toInt64, Int32.reduceToInt, Int64.reduceToInt, true_and, and_true, false_and, and_false, false_or, or_false, true_or, or_true, not_true_eq_false, not_false_eq_true, ne_eq, forall_const, true_implies, false_implies, implies_true] at eb3 fb3 eb6 fb6 eb13 fb13 ⊢) <;> omega)⟩, by rw [ht]; exact hP, hD⟩, hS.F ht⟩) hS.2.2 dX12_number_55
    · have eb14 : r4.toInt = 1 := by rcases hr4 with ⟨q, -⟩ | ⟨q, -⟩; exact absurd (i_eq.mpr q) c5; exact q
      have fb14 : (u0.2.2.1 h0 12).toInt = 0 := by rcases hr4 with ⟨q, r⟩ | ⟨q, r⟩; exact absurd q (by omega); exact r
      clear hr4
      refine lv_aload_n hx hb dX12_number_27 rfl (lv_at hl 0 rfl) ?_
      refine pget (ci := 12) (v := .int (u0.2.2.1 h0 11)) (C := RX12) (T := TX12) (N := 34) hx hb hts i_X12 hown hK hP m_h0 (cF12 k_h0) rfl 11 (by decide) (hts (.fieldLink RX12 109 "BellowsRowModel" "value" "I") (by decide +kernel)) (fun _ h9 => h9) rfl dX12_number_28 ?_
      refine lv_i2l hx hb dX12_number_31 rfl ?_
      have b15 := Int32.toInt_lt (u0.2.2.1 h0 11)
      have ab15 := Int32.le_toInt (u0.2.2.1 h0 11)
      refine lv_topl (fun x16 ex16 => ?_)
      have tx16 : x16.toInt = (u0.2.2.1 h0 11).toInt := by rw [ex16]; exact Int32.toInt_toInt64 _
      refine lv_iload_n hx hb dX12_number_32 rfl (lv_at hl 1 rfl) ?_
      refine lv_i2l hx hb dX12_number_33 rfl ?_
      have b17 := Int32.toInt_lt p1
      have ab17 := Int32.le_toInt p1
      refine lv_topl (fun x18 ex18 => ?_)
      have tx18 : x18.toInt = p1.toInt := by rw [ex18]; exact Int32.toInt_toInt64 _
      refine lv_iload_n hx hb dX12_number_34 rfl (lv_at hl 2 rfl) ?_
      refine lv_i2l hx hb dX12_number_35 rfl ?_
      have b19 := Int32.toInt_lt p2
      have ab19 := Int32.le_toInt p2
      refine lv_topl (fun x20 ex20 => ?_)
      have tx20 : x20.toInt = p2.toInt := by rw [ex20]; exact Int32.toInt_toInt64 _
      refine psi (As := [.long x16, .long x18, .long x20]) (rest := []) ⟨hx, hb, hml, hown, hts⟩ (t_X12_in l D k x16 x18 x20) (va_cwS 3 hts gX12_number_X12_in rfl rfl rfl (by decide +kernel) ⟨Nat.le_of_ble_eq_true rfl, Nat.le_of_ble_eq_true rfl⟩) hK rfl hl.1 rfl (Nat.le_of_ble_eq_true rfl) dX12_number_36 ⟨Nat.le_of_ble_eq_true rfl, Nat.le_of_ble_eq_true rfl⟩ (fun r21 hr21 => ?_)
      refine lv_if_ne (tgt := 47) hx hb dX12_number_39 (by decide) (fun c22 => ?_) (fun c22 => ?_)
      · have eb23 : r21.toInt = 1 := by rcases hr21 with ⟨q, -⟩ | ⟨q, -⟩; exact absurd (i_eq.mpr q) c22; exact q
        have fb23 : x18.toInt ≤ x16.toInt ∧ x16.toInt ≤ x20.toInt := by rcases hr21 with ⟨q, r⟩ | ⟨q, r⟩; exact absurd q (by omega); exact r
        clear hr21
        refine lv_aload_n hx hb dX12_number_47 rfl (lv_at hl 0 rfl) ?_
        refine rvi (C := RX12) (As := []) (rest := []) ⟨hx, hb, hml, hown, hts⟩ (t_X12_good l D k u0 hu h0 m_h0 k_h0 ) (cwV 0 hts gX12_number_X12_good rfl rfl rfl (by decide +kernel) ⟨Nat.le_of_ble_eq_true rfl, Nat.le_of_ble_eq_true rfl⟩) hP hK (precv hK hP m_h0 (cF12 k_h0) rfl) rfl hl.1 rfl (Nat.le_of_ble_eq_true rfl) dX12_number_48 ⟨Nat.le_of_ble_eq_true rfl, Nat.le_of_ble_eq_true rfl⟩ (fun r24 hr24 => ?_)
        refine lv_if_ne (tgt := 56) hx hb dX12_number_51 (by decide) (fun c25 => ?_) (fun c25 => ?_)
        · have eb26 : r24.toInt = 1 := by rcases hr24 with ⟨q, -⟩ | ⟨q, -⟩; exact absurd (i_eq.mpr q) c25; exact q
          have fb26 : (u0.2.2.1 h0 12).toInt = 0 := by rcases hr24 with ⟨q, r⟩ | ⟨q, r⟩; exact absurd q (by omega); exact r
          clear hr24
          refine lv_aload_n hx hb dX12_number_56 rfl (lv_at hl 0 rfl) ?_
          refine pget (ci := 12) (v := .int (u0.2.2.1 h0 11)) (C := RX12) (T := TX12) (N := 34) hx hb hts i_X12 hown hK hP m_h0 (cF12 k_h0) rfl 11 (by decide) (hts (.fieldLink RX12 109 "BellowsRowModel" "value" "I") (by decide +kernel)) (fun _ h9 => h9) rfl dX12_number_57 ?_
          refine lv_istore_n (lv' := [(3, .int (u0.2.2.1 h0 11)), (0, .ref h0), (1, .int p1), (2, .int p2)]) hx hb dX12_number_60 rfl hl (by decide) rfl (fun ls hl => ?_)
          refine lv_aload_n hx hb dX12_number_61 rfl (lv_at hl 1 rfl) ?_
          refine wvV (C := RX12) (As := []) (rest := []) ⟨hx, hb, hml, hown, hts⟩ (fun sz => t_X12_advance l D k u0 hu h0 m_h0 k_h0  sz) (cwV 0 hts gX12_number_X12_advance rfl rfl rfl (by decide +kernel) ⟨Nat.le_of_ble_eq_true rfl, Nat.le_of_ble_eq_true rfl⟩) hP hK hD hN hS hA (precv hK hP m_h0 (cF12 k_h0) rfl) rfl hl.1 rfl (Nat.le_of_ble_eq_true rfl) dX12_number_62 ⟨Nat.le_of_ble_eq_true rfl, Nat.le_of_ble_eq_true rfl⟩ (fun u28 H locs hqu28 hP hD hS => ?_)
          obtain ⟨hu, hxu28, z29, hr27⟩ := hqu28
          have hkf := KF.trans hkf hp z29
          have hp := PX.trans hp hxu28
          refine lv_iload_n hx hb dX12_number_65 rfl (lv_at hl 0 rfl) ?_
          exact W.iret (v := (u0.2.2.1 h0 11)) hx hb hr (fun t ht hW => ⟨⟨(u0.2.2.1 h0 11), u28, rfl, ⟨hu, hp, hkf, (show ((u28.2.2.1 h0 12).toInt = 0 → ((u0.2.2.1 h0 12).toInt = 0 ∧ (u0.2.2.1 h0 10).toInt = 2 ∧ (u0.2.2.1 h0 11).toInt = (u0.2.2.1 h0 11).toInt ∧ p1.toInt ≤ (u0.2.2.1 h0 11).toInt ∧ (u0.2.2.1 h0 11).toInt ≤ p2.toInt)) ∧ ((u0.2.2.1 h0 11).toInt = 0 ∨ (p1.toInt ≤ (u0.2.2.1 h0 11).toInt ∧ (u0.2.2.1 h0 11).toInt ≤ p2.toInt)) from by (try simp only [i_lt, i_le, i_eq, Int32.toInt_toInt64, Int32.reduceToInt, Int64.reduceToInt, true_and, and_true, false_and, and_false, false_or, or_false, true_or, or_true, not_true_eq_false, not_false_eq_true, ne_eq, forall_const, true_implies, false_implies, implies_true] at eb3 fb3 eb14 fb14 b15 ab15 tx16 b17 ab17 tx18 b19 ab19 tx20 eb23 fb23 eb26 fb26 hr27 ⊢) <;> omega)⟩, by rw [ht]; exact hP, hD⟩, hS.F ht⟩) hS.2.2 dX12_number_66
        · have eb30 : r24.toInt = 0 := by rcases hr24 with ⟨q, -⟩ | ⟨q, -⟩; exact q; (exact absurd (c25) (fun w => by rw [w] at q; exact absurd q (by decide)))
          have fb30 : (u0.2.2.1 h0 12).toInt ≠ 0 := by rcases hr24 with ⟨q, r⟩ | ⟨q, r⟩; exact r; exact absurd q (by omega)
          clear hr24
          refine lv_iconst (v := 0) hx hb dX12_number_54 (by decide) ?_
          exact W.iret (v := 0) hx hb hr (fun t ht hW => ⟨⟨0, u0, rfl, ⟨hu, hp, hkf, (show ((u0.2.2.1 h0 12).toInt = 0 → ((u0.2.2.1 h0 12).toInt = 0 ∧ (u0.2.2.1 h0 10).toInt = 2 ∧ (0 : Int) = (u0.2.2.1 h0 11).toInt ∧ p1.toInt ≤ (0 : Int) ∧ (0 : Int) ≤ p2.toInt)) ∧ ((0 : Int) = 0 ∨ (p1.toInt ≤ (0 : Int) ∧ (0 : Int) ≤ p2.toInt)) from by (try simp only [i_lt, i_le, i_eq, Int32.toInt_toInt64, Int32.reduceToInt, Int64.reduceToInt, true_and, and_true, false_and, and_false, false_or, or_false, true_or, or_true, not_true_eq_false, not_false_eq_true, ne_eq, forall_const, true_implies, false_implies, implies_true] at eb3 fb3 eb14 fb14 b15 ab15 tx16 b17 ab17 tx18 b19 ab19 tx20 eb23 fb23 eb30 fb30 ⊢) <;> omega)⟩, by rw [ht]; exact hP, hD⟩, hS.F ht⟩) hS.2.2 dX12_number_55
      · have eb31 : r21.toInt = 0 := by rcases hr21 with ⟨q, -⟩ | ⟨q, -⟩; exact q; (exact absurd (c22) (fun w => by rw [w] at q; exact absurd q (by decide)))
        have fb31 : (x16.toInt < x18.toInt ∨ x20.toInt < x16.toInt) := by rcases hr21 with ⟨q, r⟩ | ⟨q, r⟩; exact r; exact absurd q (by omega)
        clear hr21
        refine lv_aload_n hx hb dX12_number_42 rfl (lv_at hl 0 rfl) ?_
        refine lv_iconst (v := 2) hx hb dX12_number_43 (by decide) ?_
        refine wvV (C := RX12) (As := [.int 2]) (rest := []) ⟨hx, hb, hml, hown, hts⟩ (fun sz => t_X12_errs l D k u0 hu h0 m_h0 k_h0 2 (by decide) sz) (cwV 1 hts gX12_number_X12_errs rfl rfl rfl (by decide +kernel) ⟨Nat.le_of_ble_eq_true rfl, Nat.le_of_ble_eq_true rfl⟩) hP hK hD hN hS hA (precv hK hP m_h0 (cF12 k_h0) rfl) rfl hl.1 rfl (Nat.le_of_ble_eq_true rfl) dX12_number_44 ⟨Nat.le_of_ble_eq_true rfl, Nat.le_of_ble_eq_true rfl⟩ (fun u33 H locs hqu33 hP hD hS => ?_)
        obtain ⟨hu, hxu33, z34, hr32⟩ := hqu33
        have hkf := KF.trans hkf hp z34
        have hp := PX.trans hp hxu33
        refine lv_aload_n hx hb dX12_number_47 rfl (lv_at hl 0 rfl) ?_
        have k_h0 : u33.2.1 h0 = 12 := (hp h0 m0_h0).2.1.trans k0_h0
        have m_h0 : h0 ∈ u33.1 := (hp h0 m0_h0).1
        refine rvi (C := RX12) (As := []) (rest := []) ⟨hx, hb, hml, hown, hts⟩ (t_X12_good l D k u33 hu h0 m_h0 k_h0 ) (cwV 0 hts gX12_number_X12_good rfl rfl rfl (by decide +kernel) ⟨Nat.le_of_ble_eq_true rfl, Nat.le_of_ble_eq_true rfl⟩) hP hK (precv hK hP m_h0 (cF12 k_h0) rfl) rfl hl.1 rfl (Nat.le_of_ble_eq_true rfl) dX12_number_48 ⟨Nat.le_of_ble_eq_true rfl, Nat.le_of_ble_eq_true rfl⟩ (fun r35 hr35 => ?_)
        refine lv_if_ne (tgt := 56) hx hb dX12_number_51 (by decide) (fun c36 => ?_) (fun c36 => ?_)
        · have eb37 : r35.toInt = 1 := by rcases hr35 with ⟨q, -⟩ | ⟨q, -⟩; exact absurd (i_eq.mpr q) c36; exact q
          have fb37 : (u33.2.2.1 h0 12).toInt = 0 := by rcases hr35 with ⟨q, r⟩ | ⟨q, r⟩; exact absurd q (by omega); exact r
          clear hr35
          exact absurd fb37 (by (try simp only [i_lt, i_le, i_eq, Int32.toInt_toInt64, Int32.reduceToInt, Int64.reduceToInt, true_and, and_true, false_and, and_false, false_or, or_false, true_or, or_true, not_true_eq_false, not_false_eq_true, ne_eq, forall_const, true_implies, false_implies, implies_true] at eb3 fb3 eb14 fb14 b15 ab15 tx16 b17 ab17 tx18 b19 ab19 tx20 eb31 fb31 hr32 hr35 ⊢) <;> omega)
        · have eb38 : r35.toInt = 0 := by rcases hr35 with ⟨q, -⟩ | ⟨q, -⟩; exact q; (exact absurd (c36) (fun w => by rw [w] at q; exact absurd q (by decide)))
          have fb38 : (u33.2.2.1 h0 12).toInt ≠ 0 := by rcases hr35 with ⟨q, r⟩ | ⟨q, r⟩; exact r; exact absurd q (by omega)
          clear hr35
          refine lv_iconst (v := 0) hx hb dX12_number_54 (by decide) ?_
          exact W.iret (v := 0) hx hb hr (fun t ht hW => ⟨⟨0, u33, rfl, ⟨hu, hp, hkf, (show ((u33.2.2.1 h0 12).toInt = 0 → ((u0.2.2.1 h0 12).toInt = 0 ∧ (u0.2.2.1 h0 10).toInt = 2 ∧ (0 : Int) = (u0.2.2.1 h0 11).toInt ∧ p1.toInt ≤ (0 : Int) ∧ (0 : Int) ≤ p2.toInt)) ∧ ((0 : Int) = 0 ∨ (p1.toInt ≤ (0 : Int) ∧ (0 : Int) ≤ p2.toInt)) from by (try simp only [i_lt, i_le, i_eq, Int32.toInt_toInt64, Int32.reduceToInt, Int64.reduceToInt, true_and, and_true, false_and, and_false, false_or, or_false, true_or, or_true, not_true_eq_false, not_false_eq_true, ne_eq, forall_const, true_implies, false_implies, implies_true] at eb3 fb3 eb14 fb14 b15 ab15 tx16 b17 ab17 tx18 b19 ab19 tx20 eb31 fb31 hr32 eb38 fb38 ⊢) <;> omega)⟩, by rw [ht]; exact hP, hD⟩, hS.F ht⟩) hS.2.2 dX12_number_55
  · have eb39 : r1.toInt = 1 := by rcases hr1 with ⟨q, -⟩ | ⟨q, -⟩; exact absurd (i_eq.mpr q) c2; exact q
    have fb39 : (u0.2.2.1 h0 12).toInt = 0 := by rcases hr1 with ⟨q, r⟩ | ⟨q, r⟩; exact absurd q (by omega); exact r
    clear hr1
    refine lv_aload_n hx hb dX12_number_7 rfl (lv_at hl 0 rfl) ?_
    refine pget (ci := 12) (v := .int (u0.2.2.1 h0 10)) (C := RX12) (T := TX12) (N := 34) hx hb hts i_X12 hown hK hP m_h0 (cF12 k_h0) rfl 10 (by decide) (hts (.fieldLink RX12 98 "BellowsRowModel" "token" "I") (by decide +kernel)) (fun _ h9 => h9) rfl dX12_number_8 ?_
    refine lv_iconst (v := 2) hx hb dX12_number_11 (by decide) ?_
    refine lv_icmp_eq (tgt := 20) hx hb dX12_number_12 (by decide) (fun c40 => ?_) (fun c40 => ?_)
    · refine lv_aload_n hx hb dX12_number_20 rfl (lv_at hl 0 rfl) ?_
      refine rvi (C := RX12) (As := []) (rest := []) ⟨hx, hb, hml, hown, hts⟩ (t_X12_good l D k u0 hu h0 m_h0 k_h0 ) (cwV 0 hts gX12_number_X12_good rfl rfl rfl (by decide +kernel) ⟨Nat.le_of_ble_eq_true rfl, Nat.le_of_ble_eq_true rfl⟩) hP hK (precv hK hP m_h0 (cF12 k_h0) rfl) rfl hl.1 rfl (Nat.le_of_ble_eq_true rfl) dX12_number_21 ⟨Nat.le_of_ble_eq_true rfl, Nat.le_of_ble_eq_true rfl⟩ (fun r41 hr41 => ?_)
      refine lv_if_eq (tgt := 47) hx hb dX12_number_24 (by decide) (fun c42 => ?_) (fun c42 => ?_)
      · have eb43 : r41.toInt = 0 := by rcases hr41 with ⟨q, -⟩ | ⟨q, -⟩; exact q; (exact absurd (c42) (fun w => by rw [w] at q; exact absurd q (by decide)))
        have fb43 : (u0.2.2.1 h0 12).toInt ≠ 0 := by rcases hr41 with ⟨q, r⟩ | ⟨q, r⟩; exact r; exact absurd q (by omega)
        clear hr41
        refine lv_aload_n hx hb dX12_number_47 rfl (lv_at hl 0 rfl) ?_
        refine rvi (C := RX12) (As := []) (rest := []) ⟨hx, hb, hml, hown, hts⟩ (t_X12_good l D k u0 hu h0 m_h0 k_h0 ) (cwV 0 hts gX12_number_X12_good rfl rfl rfl (by decide +kernel) ⟨Nat.le_of_ble_eq_true rfl, Nat.le_of_ble_eq_true rfl⟩) hP hK (precv hK hP m_h0 (cF12 k_h0) rfl) rfl hl.1 rfl (Nat.le_of_ble_eq_true rfl) dX12_number_48 ⟨Nat.le_of_ble_eq_true rfl, Nat.le_of_ble_eq_true rfl⟩ (fun r44 hr44 => ?_)
        refine lv_if_ne (tgt := 56) hx hb dX12_number_51 (by decide) (fun c45 => ?_) (fun c45 => ?_)
        · have eb46 : r44.toInt = 1 := by rcases hr44 with ⟨q, -⟩ | ⟨q, -⟩; exact absurd (i_eq.mpr q) c45; exact q
          have fb46 : (u0.2.2.1 h0 12).toInt = 0 := by rcases hr44 with ⟨q, r⟩ | ⟨q, r⟩; exact absurd q (by omega); exact r
          clear hr44
          refine lv_aload_n hx hb dX12_number_56 rfl (lv_at hl 0 rfl) ?_
          refine pget (ci := 12) (v := .int (u0.2.2.1 h0 11)) (C := RX12) (T := TX12) (N := 34) hx hb hts i_X12 hown hK hP m_h0 (cF12 k_h0) rfl 11 (by decide) (hts (.fieldLink RX12 109 "BellowsRowModel" "value" "I") (by decide +kernel)) (fun _ h9 => h9) rfl dX12_number_57 ?_
          refine lv_istore_n (lv' := [(3, .int (u0.2.2.1 h0 11)), (0, .ref h0), (1, .int p1), (2, .int p2)]) hx hb dX12_number_60 rfl hl (by decide) rfl (fun ls hl => ?_)
          refine lv_aload_n hx hb dX12_number_61 rfl (lv_at hl 1 rfl) ?_
          refine wvV (C := RX12) (As := []) (rest := []) ⟨hx, hb, hml, hown, hts⟩ (fun sz => t_X12_advance l D k u0 hu h0 m_h0 k_h0  sz) (cwV 0 hts gX12_number_X12_advance rfl rfl rfl (by decide +kernel) ⟨Nat.le_of_ble_eq_true rfl, Nat.le_of_ble_eq_true rfl⟩) hP hK hD hN hS hA (precv hK hP m_h0 (cF12 k_h0) rfl) rfl hl.1 rfl (Nat.le_of_ble_eq_true rfl) dX12_number_62 ⟨Nat.le_of_ble_eq_true rfl, Nat.le_of_ble_eq_true rfl⟩ (fun u48 H locs hqu48 hP hD hS => ?_)
          obtain ⟨hu, hxu48, z49, hr47⟩ := hqu48
          have hkf := KF.trans hkf hp z49
          have hp := PX.trans hp hxu48
          refine lv_iload_n hx hb dX12_number_65 rfl (lv_at hl 0 rfl) ?_
          exact W.iret (v := (u0.2.2.1 h0 11)) hx hb hr (fun t ht hW => ⟨⟨(u0.2.2.1 h0 11), u48, rfl, ⟨hu, hp, hkf, (show ((u48.2.2.1 h0 12).toInt = 0 → ((u0.2.2.1 h0 12).toInt = 0 ∧ (u0.2.2.1 h0 10).toInt = 2 ∧ (u0.2.2.1 h0 11).toInt = (u0.2.2.1 h0 11).toInt ∧ p1.toInt ≤ (u0.2.2.1 h0 11).toInt ∧ (u0.2.2.1 h0 11).toInt ≤ p2.toInt)) ∧ ((u0.2.2.1 h0 11).toInt = 0 ∨ (p1.toInt ≤ (u0.2.2.1 h0 11).toInt ∧ (u0.2.2.1 h0 11).toInt ≤ p2.toInt)) from by (try simp only [i_lt, i_le, i_eq, Int32.toInt_toInt64, Int32.reduceToInt, Int64.reduceToInt, true_and, and_true, false_and, and_false, false_or, or_false, true_or, or_true, not_true_eq_false, not_false_eq_true, ne_eq, forall_const, true_implies, false_implies, implies_true] at eb39 fb39 c40 eb43 fb43 eb46 fb46 hr47 ⊢) <;> omega)⟩, by rw [ht]; exact hP, hD⟩, hS.F ht⟩) hS.2.2 dX12_number_66
        · have eb50 : r44.toInt = 0 := by rcases hr44 with ⟨q, -⟩ | ⟨q, -⟩; exact q; (exact absurd (c45) (fun w => by rw [w] at q; exact absurd q (by decide)))
          have fb50 : (u0.2.2.1 h0 12).toInt ≠ 0 := by rcases hr44 with ⟨q, r⟩ | ⟨q, r⟩; exact r; exact absurd q (by omega)
          clear hr44
          refine lv_iconst (v := 0) hx hb dX12_number_54 (by decide) ?_
          exact W.iret (v := 0) hx hb hr (fun t ht hW => ⟨⟨0, u0, rfl, ⟨hu, hp, hkf, (show ((u0.2.2.1 h0 12).toInt = 0 → ((u0.2.2.1 h0 12).toInt = 0 ∧ (u0.2.2.1 h0 10).toInt = 2 ∧ (0 : Int) = (u0.2.2.1 h0 11).toInt ∧ p1.toInt ≤ (0 : Int) ∧ (0 : Int) ≤ p2.toInt)) ∧ ((0 : Int) = 0 ∨ (p1.toInt ≤ (0 : Int) ∧ (0 : Int) ≤ p2.toInt)) from by (try simp only [i_lt, i_le, i_eq, Int32.toInt_toInt64, Int32.reduceToInt, Int64.reduceToInt, true_and, and_true, false_and, and_false, false_or, or_false, true_or, or_true, not_true_eq_false, not_false_eq_true, ne_eq, forall_const, true_implies, false_implies, implies_true] at eb39 fb39 c40 eb43 fb43 eb50 fb50 ⊢) <;> omega)⟩, by rw [ht]; exact hP, hD⟩, hS.F ht⟩) hS.2.2 dX12_number_55
      · have eb51 : r41.toInt = 1 := by rcases hr41 with ⟨q, -⟩ | ⟨q, -⟩; exact absurd (i_eq.mpr q) c42; exact q
        have fb51 : (u0.2.2.1 h0 12).toInt = 0 := by rcases hr41 with ⟨q, r⟩ | ⟨q, r⟩; exact absurd q (by omega); exact r
        clear hr41
        refine lv_aload_n hx hb dX12_number_27 rfl (lv_at hl 0 rfl) ?_
        refine pget (ci := 12) (v := .int (u0.2.2.1 h0 11)) (C := RX12) (T := TX12) (N := 34) hx hb hts i_X12 hown hK hP m_h0 (cF12 k_h0) rfl 11 (by decide) (hts (.fieldLink RX12 109 "BellowsRowModel" "value" "I") (by decide +kernel)) (fun _ h9 => h9) rfl dX12_number_28 ?_
        refine lv_i2l hx hb dX12_number_31 rfl ?_
        have b52 := Int32.toInt_lt (u0.2.2.1 h0 11)
        have ab52 := Int32.le_toInt (u0.2.2.1 h0 11)
        refine lv_topl (fun x53 ex53 => ?_)
        have tx53 : x53.toInt = (u0.2.2.1 h0 11).toInt := by rw [ex53]; exact Int32.toInt_toInt64 _
        refine lv_iload_n hx hb dX12_number_32 rfl (lv_at hl 1 rfl) ?_
        refine lv_i2l hx hb dX12_number_33 rfl ?_
        have b54 := Int32.toInt_lt p1
        have ab54 := Int32.le_toInt p1
        refine lv_topl (fun x55 ex55 => ?_)
        have tx55 : x55.toInt = p1.toInt := by rw [ex55]; exact Int32.toInt_toInt64 _
        refine lv_iload_n hx hb dX12_number_34 rfl (lv_at hl 2 rfl) ?_
        refine lv_i2l hx hb dX12_number_35 rfl ?_
        have b56 := Int32.toInt_lt p2
        have ab56 := Int32.le_toInt p2
        refine lv_topl (fun x57 ex57 => ?_)
        have tx57 : x57.toInt = p2.toInt := by rw [ex57]; exact Int32.toInt_toInt64 _
        refine psi (As := [.long x53, .long x55, .long x57]) (rest := []) ⟨hx, hb, hml, hown, hts⟩ (t_X12_in l D k x53 x55 x57) (va_cwS 3 hts gX12_number_X12_in rfl rfl rfl (by decide +kernel) ⟨Nat.le_of_ble_eq_true rfl, Nat.le_of_ble_eq_true rfl⟩) hK rfl hl.1 rfl (Nat.le_of_ble_eq_true rfl) dX12_number_36 ⟨Nat.le_of_ble_eq_true rfl, Nat.le_of_ble_eq_true rfl⟩ (fun r58 hr58 => ?_)
        refine lv_if_ne (tgt := 47) hx hb dX12_number_39 (by decide) (fun c59 => ?_) (fun c59 => ?_)
        · have eb60 : r58.toInt = 1 := by rcases hr58 with ⟨q, -⟩ | ⟨q, -⟩; exact absurd (i_eq.mpr q) c59; exact q
          have fb60 : x55.toInt ≤ x53.toInt ∧ x53.toInt ≤ x57.toInt := by rcases hr58 with ⟨q, r⟩ | ⟨q, r⟩; exact absurd q (by omega); exact r
          clear hr58
          refine lv_aload_n hx hb dX12_number_47 rfl (lv_at hl 0 rfl) ?_
          refine rvi (C := RX12) (As := []) (rest := []) ⟨hx, hb, hml, hown, hts⟩ (t_X12_good l D k u0 hu h0 m_h0 k_h0 ) (cwV 0 hts gX12_number_X12_good rfl rfl rfl (by decide +kernel) ⟨Nat.le_of_ble_eq_true rfl, Nat.le_of_ble_eq_true rfl⟩) hP hK (precv hK hP m_h0 (cF12 k_h0) rfl) rfl hl.1 rfl (Nat.le_of_ble_eq_true rfl) dX12_number_48 ⟨Nat.le_of_ble_eq_true rfl, Nat.le_of_ble_eq_true rfl⟩ (fun r61 hr61 => ?_)
          refine lv_if_ne (tgt := 56) hx hb dX12_number_51 (by decide) (fun c62 => ?_) (fun c62 => ?_)
          · have eb63 : r61.toInt = 1 := by rcases hr61 with ⟨q, -⟩ | ⟨q, -⟩; exact absurd (i_eq.mpr q) c62; exact q
            have fb63 : (u0.2.2.1 h0 12).toInt = 0 := by rcases hr61 with ⟨q, r⟩ | ⟨q, r⟩; exact absurd q (by omega); exact r
            clear hr61
            refine lv_aload_n hx hb dX12_number_56 rfl (lv_at hl 0 rfl) ?_
            refine pget (ci := 12) (v := .int (u0.2.2.1 h0 11)) (C := RX12) (T := TX12) (N := 34) hx hb hts i_X12 hown hK hP m_h0 (cF12 k_h0) rfl 11 (by decide) (hts (.fieldLink RX12 109 "BellowsRowModel" "value" "I") (by decide +kernel)) (fun _ h9 => h9) rfl dX12_number_57 ?_
            refine lv_istore_n (lv' := [(3, .int (u0.2.2.1 h0 11)), (0, .ref h0), (1, .int p1), (2, .int p2)]) hx hb dX12_number_60 rfl hl (by decide) rfl (fun ls hl => ?_)
            refine lv_aload_n hx hb dX12_number_61 rfl (lv_at hl 1 rfl) ?_
            refine wvV (C := RX12) (As := []) (rest := []) ⟨hx, hb, hml, hown, hts⟩ (fun sz => t_X12_advance l D k u0 hu h0 m_h0 k_h0  sz) (cwV 0 hts gX12_number_X12_advance rfl rfl rfl (by decide +kernel) ⟨Nat.le_of_ble_eq_true rfl, Nat.le_of_ble_eq_true rfl⟩) hP hK hD hN hS hA (precv hK hP m_h0 (cF12 k_h0) rfl) rfl hl.1 rfl (Nat.le_of_ble_eq_true rfl) dX12_number_62 ⟨Nat.le_of_ble_eq_true rfl, Nat.le_of_ble_eq_true rfl⟩ (fun u65 H locs hqu65 hP hD hS => ?_)
            obtain ⟨hu, hxu65, z66, hr64⟩ := hqu65
            have hkf := KF.trans hkf hp z66
            have hp := PX.trans hp hxu65
            refine lv_iload_n hx hb dX12_number_65 rfl (lv_at hl 0 rfl) ?_
            exact W.iret (v := (u0.2.2.1 h0 11)) hx hb hr (fun t ht hW => ⟨⟨(u0.2.2.1 h0 11), u65, rfl, ⟨hu, hp, hkf, (show ((u65.2.2.1 h0 12).toInt = 0 → ((u0.2.2.1 h0 12).toInt = 0 ∧ (u0.2.2.1 h0 10).toInt = 2 ∧ (u0.2.2.1 h0 11).toInt = (u0.2.2.1 h0 11).toInt ∧ p1.toInt ≤ (u0.2.2.1 h0 11).toInt ∧ (u0.2.2.1 h0 11).toInt ≤ p2.toInt)) ∧ ((u0.2.2.1 h0 11).toInt = 0 ∨ (p1.toInt ≤ (u0.2.2.1 h0 11).toInt ∧ (u0.2.2.1 h0 11).toInt ≤ p2.toInt)) from by (try simp only [i_lt, i_le, i_eq, Int32.toInt_toInt64, Int32.reduceToInt, Int64.reduceToInt, true_and, and_true, false_and, and_false, false_or, or_false, true_or, or_true, not_true_eq_false, not_false_eq_true, ne_eq, forall_const, true_implies, false_implies, implies_true] at eb39 fb39 c40 eb51 fb51 b52 ab52 tx53 b54 ab54 tx55 b56 ab56 tx57 eb60 fb60 eb63 fb63 hr64 ⊢) <;> omega)⟩, by rw [ht]; exact hP, hD⟩, hS.F ht⟩) hS.2.2 dX12_number_66
          · have eb67 : r61.toInt = 0 := by rcases hr61 with ⟨q, -⟩ | ⟨q, -⟩; exact q; (exact absurd (c62) (fun w => by rw [w] at q; exact absurd q (by decide)))
            have fb67 : (u0.2.2.1 h0 12).toInt ≠ 0 := by rcases hr61 with ⟨q, r⟩ | ⟨q, r⟩; exact r; exact absurd q (by omega)
            clear hr61
            refine lv_iconst (v := 0) hx hb dX12_number_54 (by decide) ?_
            exact W.iret (v := 0) hx hb hr (fun t ht hW => ⟨⟨0, u0, rfl, ⟨hu, hp, hkf, (show ((u0.2.2.1 h0 12).toInt = 0 → ((u0.2.2.1 h0 12).toInt = 0 ∧ (u0.2.2.1 h0 10).toInt = 2 ∧ (0 : Int) = (u0.2.2.1 h0 11).toInt ∧ p1.toInt ≤ (0 : Int) ∧ (0 : Int) ≤ p2.toInt)) ∧ ((0 : Int) = 0 ∨ (p1.toInt ≤ (0 : Int) ∧ (0 : Int) ≤ p2.toInt)) from by (try simp only [i_lt, i_le, i_eq, Int32.toInt_toInt64, Int32.reduceToInt, Int64.reduceToInt, true_and, and_true, false_and, and_false, false_or, or_false, true_or, or_true, not_true_eq_false, not_false_eq_true, ne_eq, forall_const, true_implies, false_implies, implies_true] at eb39 fb39 c40 eb51 fb51 b52 ab52 tx53 b54 ab54 tx55 b56 ab56 tx57 eb60 fb60 eb67 fb67 ⊢) <;> omega)⟩, by rw [ht]; exact hP, hD⟩, hS.F ht⟩) hS.2.2 dX12_number_55
        · have eb68 : r58.toInt = 0 := by rcases hr58 with ⟨q, -⟩ | ⟨q, -⟩; exact q; (exact absurd (c59) (fun w => by rw [w] at q; exact absurd q (by decide)))
          have fb68 : (x53.toInt < x55.toInt ∨ x57.toInt < x53.toInt) := by rcases hr58 with ⟨q, r⟩ | ⟨q, r⟩; exact r; exact absurd q (by omega)
          clear hr58
          refine lv_aload_n hx hb dX12_number_42 rfl (lv_at hl 0 rfl) ?_
          refine lv_iconst (v := 2) hx hb dX12_number_43 (by decide) ?_
          refine wvV (C := RX12) (As := [.int 2]) (rest := []) ⟨hx, hb, hml, hown, hts⟩ (fun sz => t_X12_errs l D k u0 hu h0 m_h0 k_h0 2 (by decide) sz) (cwV 1 hts gX12_number_X12_errs rfl rfl rfl (by decide +kernel) ⟨Nat.le_of_ble_eq_true rfl, Nat.le_of_ble_eq_true rfl⟩) hP hK hD hN hS hA (precv hK hP m_h0 (cF12 k_h0) rfl) rfl hl.1 rfl (Nat.le_of_ble_eq_true rfl) dX12_number_44 ⟨Nat.le_of_ble_eq_true rfl, Nat.le_of_ble_eq_true rfl⟩ (fun u70 H locs hqu70 hP hD hS => ?_)
          obtain ⟨hu, hxu70, z71, hr69⟩ := hqu70
          have hkf := KF.trans hkf hp z71
          have hp := PX.trans hp hxu70
          refine lv_aload_n hx hb dX12_number_47 rfl (lv_at hl 0 rfl) ?_
          have k_h0 : u70.2.1 h0 = 12 := (hp h0 m0_h0).2.1.trans k0_h0
          have m_h0 : h0 ∈ u70.1 := (hp h0 m0_h0).1
          refine rvi (C := RX12) (As := []) (rest := []) ⟨hx, hb, hml, hown, hts⟩ (t_X12_good l D k u70 hu h0 m_h0 k_h0 ) (cwV 0 hts gX12_number_X12_good rfl rfl rfl (by decide +kernel) ⟨Nat.le_of_ble_eq_true rfl, Nat.le_of_ble_eq_true rfl⟩) hP hK (precv hK hP m_h0 (cF12 k_h0) rfl) rfl hl.1 rfl (Nat.le_of_ble_eq_true rfl) dX12_number_48 ⟨Nat.le_of_ble_eq_true rfl, Nat.le_of_ble_eq_true rfl⟩ (fun r72 hr72 => ?_)
          refine lv_if_ne (tgt := 56) hx hb dX12_number_51 (by decide) (fun c73 => ?_) (fun c73 => ?_)
          · have eb74 : r72.toInt = 1 := by rcases hr72 with ⟨q, -⟩ | ⟨q, -⟩; exact absurd (i_eq.mpr q) c73; exact q
            have fb74 : (u70.2.2.1 h0 12).toInt = 0 := by rcases hr72 with ⟨q, r⟩ | ⟨q, r⟩; exact absurd q (by omega); exact r
            clear hr72
            exact absurd fb74 (by (try simp only [i_lt, i_le, i_eq, Int32.toInt_toInt64, Int32.reduceToInt, Int64.reduceToInt, true_and, and_true, false_and, and_false, false_or, or_false, true_or, or_true, not_true_eq_false, not_false_eq_true, ne_eq, forall_const, true_implies, false_implies, implies_true] at eb39 fb39 c40 eb51 fb51 b52 ab52 tx53 b54 ab54 tx55 b56 ab56 tx57 eb68 fb68 hr69 hr72 ⊢) <;> omega)
          · have eb75 : r72.toInt = 0 := by rcases hr72 with ⟨q, -⟩ | ⟨q, -⟩; exact q; (exact absurd (c73) (fun w => by rw [w] at q; exact absurd q (by decide)))
            have fb75 : (u70.2.2.1 h0 12).toInt ≠ 0 := by rcases hr72 with ⟨q, r⟩ | ⟨q, r⟩; exact r; exact absurd q (by omega)
            clear hr72
            refine lv_iconst (v := 0) hx hb dX12_number_54 (by decide) ?_
            exact W.iret (v := 0) hx hb hr (fun t ht hW => ⟨⟨0, u70, rfl, ⟨hu, hp, hkf, (show ((u70.2.2.1 h0 12).toInt = 0 → ((u0.2.2.1 h0 12).toInt = 0 ∧ (u0.2.2.1 h0 10).toInt = 2 ∧ (0 : Int) = (u0.2.2.1 h0 11).toInt ∧ p1.toInt ≤ (0 : Int) ∧ (0 : Int) ≤ p2.toInt)) ∧ ((0 : Int) = 0 ∨ (p1.toInt ≤ (0 : Int) ∧ (0 : Int) ≤ p2.toInt)) from by (try simp only [i_lt, i_le, i_eq, Int32.toInt_toInt64, Int32.reduceToInt, Int64.reduceToInt, true_and, and_true, false_and, and_false, false_or, or_false, true_or, or_true, not_true_eq_false, not_false_eq_true, ne_eq, forall_const, true_implies, false_implies, implies_true] at eb39 fb39 c40 eb51 fb51 b52 ab52 tx53 b54 ab54 tx55 b56 ab56 tx57 eb68 fb68 hr69 eb75 fb75 ⊢) <;> omega)⟩, by rw [ht]; exact hP, hD⟩, hS.F ht⟩) hS.2.2 dX12_number_55
    · refine lv_aload_n hx hb dX12_number_15 rfl (lv_at hl 0 rfl) ?_
      refine lv_iconst (v := 1) hx hb dX12_number_16 (by decide) ?_
      refine wvV (C := RX12) (As := [.int 1]) (rest := []) ⟨hx, hb, hml, hown, hts⟩ (fun sz => t_X12_errs l D k u0 hu h0 m_h0 k_h0 1 (by decide) sz) (cwV 1 hts gX12_number_X12_errs rfl rfl rfl (by decide +kernel) ⟨Nat.le_of_ble_eq_true rfl, Nat.le_of_ble_eq_true rfl⟩) hP hK hD hN hS hA (precv hK hP m_h0 (cF12 k_h0) rfl) rfl hl.1 rfl (Nat.le_of_ble_eq_true rfl) dX12_number_17 ⟨Nat.le_of_ble_eq_true rfl, Nat.le_of_ble_eq_true rfl⟩ (fun u77 H locs hqu77 hP hD hS => ?_)
      obtain ⟨hu, hxu77, z78, hr76⟩ := hqu77
      have hkf := KF.trans hkf hp z78
      have hp := PX.trans hp hxu77
      refine lv_aload_n hx hb dX12_number_20 rfl (lv_at hl 0 rfl) ?_
      have k_h0 : u77.2.1 h0 = 12 := (hp h0 m0_h0).2.1.trans k0_h0
      have m_h0 : h0 ∈ u77.1 := (hp h0 m0_h0).1
      refine rvi (C := RX12) (As := []) (rest := []) ⟨hx, hb, hml, hown, hts⟩ (t_X12_good l D k u77 hu h0 m_h0 k_h0 ) (cwV 0 hts gX12_number_X12_good rfl rfl rfl (by decide +kernel) ⟨Nat.le_of_ble_eq_true rfl, Nat.le_of_ble_eq_true rfl⟩) hP hK (precv hK hP m_h0 (cF12 k_h0) rfl) rfl hl.1 rfl (Nat.le_of_ble_eq_true rfl) dX12_number_21 ⟨Nat.le_of_ble_eq_true rfl, Nat.le_of_ble_eq_true rfl⟩ (fun r79 hr79 => ?_)
      refine lv_if_eq (tgt := 47) hx hb dX12_number_24 (by decide) (fun c80 => ?_) (fun c80 => ?_)
      · have eb81 : r79.toInt = 0 := by rcases hr79 with ⟨q, -⟩ | ⟨q, -⟩; exact q; (exact absurd (c80) (fun w => by rw [w] at q; exact absurd q (by decide)))
        have fb81 : (u77.2.2.1 h0 12).toInt ≠ 0 := by rcases hr79 with ⟨q, r⟩ | ⟨q, r⟩; exact r; exact absurd q (by omega)
        clear hr79
        refine lv_aload_n hx hb dX12_number_47 rfl (lv_at hl 0 rfl) ?_
        refine rvi (C := RX12) (As := []) (rest := []) ⟨hx, hb, hml, hown, hts⟩ (t_X12_good l D k u77 hu h0 m_h0 k_h0 ) (cwV 0 hts gX12_number_X12_good rfl rfl rfl (by decide +kernel) ⟨Nat.le_of_ble_eq_true rfl, Nat.le_of_ble_eq_true rfl⟩) hP hK (precv hK hP m_h0 (cF12 k_h0) rfl) rfl hl.1 rfl (Nat.le_of_ble_eq_true rfl) dX12_number_48 ⟨Nat.le_of_ble_eq_true rfl, Nat.le_of_ble_eq_true rfl⟩ (fun r82 hr82 => ?_)
        refine lv_if_ne (tgt := 56) hx hb dX12_number_51 (by decide) (fun c83 => ?_) (fun c83 => ?_)
        · have eb84 : r82.toInt = 1 := by rcases hr82 with ⟨q, -⟩ | ⟨q, -⟩; exact absurd (i_eq.mpr q) c83; exact q
          have fb84 : (u77.2.2.1 h0 12).toInt = 0 := by rcases hr82 with ⟨q, r⟩ | ⟨q, r⟩; exact absurd q (by omega); exact r
          clear hr82
          exact absurd fb84 (by (try simp only [i_lt, i_le, i_eq, Int32.toInt_toInt64, Int32.reduceToInt, Int64.reduceToInt, true_and, and_true, false_and, and_false, false_or, or_false, true_or, or_true, not_true_eq_false, not_false_eq_true, ne_eq, forall_const, true_implies, false_implies, implies_true] at eb39 fb39 c40 hr76 eb81 fb81 hr82 ⊢) <;> omega)
        · have eb85 : r82.toInt = 0 := by rcases hr82 with ⟨q, -⟩ | ⟨q, -⟩; exact q; (exact absurd (c83) (fun w => by rw [w] at q; exact absurd q (by decide)))
          have fb85 : (u77.2.2.1 h0 12).toInt ≠ 0 := by rcases hr82 with ⟨q, r⟩ | ⟨q, r⟩; exact r; exact absurd q (by omega)
          clear hr82
          refine lv_iconst (v := 0) hx hb dX12_number_54 (by decide) ?_
          exact W.iret (v := 0) hx hb hr (fun t ht hW => ⟨⟨0, u77, rfl, ⟨hu, hp, hkf, (show ((u77.2.2.1 h0 12).toInt = 0 → ((u0.2.2.1 h0 12).toInt = 0 ∧ (u0.2.2.1 h0 10).toInt = 2 ∧ (0 : Int) = (u0.2.2.1 h0 11).toInt ∧ p1.toInt ≤ (0 : Int) ∧ (0 : Int) ≤ p2.toInt)) ∧ ((0 : Int) = 0 ∨ (p1.toInt ≤ (0 : Int) ∧ (0 : Int) ≤ p2.toInt)) from by (try simp only [i_lt, i_le, i_eq, Int32.toInt_toInt64, Int32.reduceToInt, Int64.reduceToInt, true_and, and_true, false_and, and_false, false_or, or_false, true_or, or_true, not_true_eq_false, not_false_eq_true, ne_eq, forall_const, true_implies, false_implies, implies_true] at eb39 fb39 c40 hr76 eb81 fb81 eb85 fb85 ⊢) <;> omega)⟩, by rw [ht]; exact hP, hD⟩, hS.F ht⟩) hS.2.2 dX12_number_55
      · have eb86 : r79.toInt = 1 := by rcases hr79 with ⟨q, -⟩ | ⟨q, -⟩; exact absurd (i_eq.mpr q) c80; exact q
        have fb86 : (u77.2.2.1 h0 12).toInt = 0 := by rcases hr79 with ⟨q, r⟩ | ⟨q, r⟩; exact absurd q (by omega); exact r
        clear hr79
        exact absurd fb86 (by (try simp only [i_lt, i_le, i_eq, Int32.toInt_toInt64, Int32.reduceToInt, Int64.reduceToInt, true_and, and_true, false_and, and_false, false_or, or_false, true_or, or_true, not_true_eq_false, not_false_eq_true, ne_eq, forall_const, true_implies, false_implies, implies_true] at eb39 fb39 c40 hr76 hr79 ⊢) <;> omega)
set_option maxHeartbeats 4000000 in
set_option maxRecDepth 100000 in
theorem t_X12_taken (l : Launch) (D : va_G) (k : Nat → ClassId) (u0 : PSt) (hu : WT u0) (h0 : Nat) (m_h0 : h0 ∈ u0.1) (k_h0 : u0.2.1 h0 = 12) (p1 : Int32) (sz : Nat) : Met l yX12_taken wsX12_taken ({ frames := 2, cells := 0, slots := 0, locals := 46 }) (PreM D k sz (PW k u0) [.ref h0, .int p1]) (va_Qi (fun r v => WT v ∧ PX u0 v ∧ KF u0 v ∧ (r.toInt = p1.toInt ∧ ((v.2.2.1 h0 12).toInt = 0 → ((u0.2.2.1 h0 12).toInt = 0 ∧ p1.toInt ≠ -1 ∧ (u0.2.2.1 h0 8).toInt ≤ (v.2.2.1 h0 9).toInt)))) (WB D (va_A (PW k u0) sz) (PW k)) (va_A (PW k u0) sz)) 0 0 (va_A (PW k u0) sz) := by
  refine Met.ofW (cc := cX12_taken) (maxL := 2) (ret := (some .int)) (by decide) rfl ?_
  intro p e s m args below meth c s₁ B hml hv
  obtain ⟨rfl, hsz, hP, hK, hD0, hN⟩ := hv
  have hx := B.exec
  have hb := B.bytes
  have hr := B.returns
  have hts := atoms_spec (ws := wsX12_taken) B.pre
  have hown : s.vm.findClass RX12 = some m.cls := findClass_of_methodNamed B.named
  have hlocks := B.notSynchronized
  have m0_h0 := m_h0
  have k0_h0 := k_h0
  subst hsz
  have hD := hD0.self (sz := s.heap.size)
  generalize hAe : va_A (PW k u0) s.heap.size = A at hD ⊢
  have hA : ∀ q : Nat, s.heap.size ≤ q → A q := fun q h => by rw [← hAe]; exact Or.inr h
  have hS : va_S A s.heap s.heap [] := va_S.rf
  have hp : PX u0 u0 := PX.rf
  have hkf : KF u0 u0 := KF.rf
  have hl := lv_entry ([.ref h0, .int p1]) (n := 2) (Nat.le_of_ble_eq_true rfl)
  rw [lg_entry_eq]
  generalize (lg_sl ([.ref h0, .int p1]) ++ List.replicate (2 - (lg_sl ([.ref h0, .int p1])).length) Slot.unset).toArray = ls at hl ⊢
  have hl : lv_has ls 2 [(0, .ref h0), (1, .int p1)] := hl
  refine lv_iload_n hx hb dX12_taken_0 rfl (lv_at hl 1 rfl) ?_
  refine lv_iconst (v := (-1)) hx hb dX12_taken_1 (by decide) ?_
  refine lv_icmp_ne (tgt := 10) hx hb dX12_taken_2 (by decide) (fun c1 => ?_) (fun c1 => ?_)
  · refine lv_aload_n hx hb dX12_taken_10 rfl (lv_at hl 0 rfl) ?_
    refine rvi (C := RX12) (As := []) (rest := []) ⟨hx, hb, hml, hown, hts⟩ (t_X12_good l D k u0 hu h0 m_h0 k_h0 ) (cwV 0 hts gX12_taken_X12_good rfl rfl rfl (by decide +kernel) ⟨Nat.le_of_ble_eq_true rfl, Nat.le_of_ble_eq_true rfl⟩) hP hK (precv hK hP m_h0 (cF12 k_h0) rfl) rfl hl.1 rfl (Nat.le_of_ble_eq_true rfl) dX12_taken_11 ⟨Nat.le_of_ble_eq_true rfl, Nat.le_of_ble_eq_true rfl⟩ (fun r2 hr2 => ?_)
    refine lv_if_eq (tgt := 21) hx hb dX12_taken_14 (by decide) (fun c3 => ?_) (fun c3 => ?_)
    · have eb4 : r2.toInt = 0 := by rcases hr2 with ⟨q, -⟩ | ⟨q, -⟩; exact q; (exact absurd (c3) (fun w => by rw [w] at q; exact absurd q (by decide)))
      have fb4 : (u0.2.2.1 h0 12).toInt ≠ 0 := by rcases hr2 with ⟨q, r⟩ | ⟨q, r⟩; exact r; exact absurd q (by omega)
      clear hr2
      refine lv_iload_n hx hb dX12_taken_21 rfl (lv_at hl 1 rfl) ?_
      exact W.iret (v := p1) hx hb hr (fun t ht hW => ⟨⟨p1, u0, rfl, ⟨hu, hp, hkf, (show p1.toInt = p1.toInt ∧ ((u0.2.2.1 h0 12).toInt = 0 → ((u0.2.2.1 h0 12).toInt = 0 ∧ p1.toInt ≠ -1 ∧ (u0.2.2.1 h0 8).toInt ≤ (u0.2.2.1 h0 9).toInt)) from by (try simp only [i_lt, i_le, i_eq, Int32.toInt_toInt64, Int32.reduceToInt, Int64.reduceToInt, true_and, and_true, false_and, and_false, false_or, or_false, true_or, or_true, not_true_eq_false, not_false_eq_true, ne_eq, forall_const, true_implies, false_implies, implies_true] at c1 eb4 fb4 ⊢) <;> omega)⟩, by rw [ht]; exact hP, hD⟩, hS.F ht⟩) hS.2.2 dX12_taken_22
    · have eb5 : r2.toInt = 1 := by rcases hr2 with ⟨q, -⟩ | ⟨q, -⟩; exact absurd (i_eq.mpr q) c3; exact q
      have fb5 : (u0.2.2.1 h0 12).toInt = 0 := by rcases hr2 with ⟨q, r⟩ | ⟨q, r⟩; exact absurd q (by omega); exact r
      clear hr2
      refine lv_aload_n hx hb dX12_taken_17 rfl (lv_at hl 0 rfl) ?_
      refine wvV (C := RX12) (As := []) (rest := []) ⟨hx, hb, hml, hown, hts⟩ (fun sz => t_X12_advance l D k u0 hu h0 m_h0 k_h0  sz) (cwV 0 hts gX12_taken_X12_advance rfl rfl rfl (by decide +kernel) ⟨Nat.le_of_ble_eq_true rfl, Nat.le_of_ble_eq_true rfl⟩) hP hK hD hN hS hA (precv hK hP m_h0 (cF12 k_h0) rfl) rfl hl.1 rfl (Nat.le_of_ble_eq_true rfl) dX12_taken_18 ⟨Nat.le_of_ble_eq_true rfl, Nat.le_of_ble_eq_true rfl⟩ (fun u7 H locs hqu7 hP hD hS => ?_)
      obtain ⟨hu, hxu7, z8, hr6⟩ := hqu7
      have hkf := KF.trans hkf hp z8
      have hp := PX.trans hp hxu7
      refine lv_iload_n hx hb dX12_taken_21 rfl (lv_at hl 1 rfl) ?_
      exact W.iret (v := p1) hx hb hr (fun t ht hW => ⟨⟨p1, u7, rfl, ⟨hu, hp, hkf, (show p1.toInt = p1.toInt ∧ ((u7.2.2.1 h0 12).toInt = 0 → ((u0.2.2.1 h0 12).toInt = 0 ∧ p1.toInt ≠ -1 ∧ (u0.2.2.1 h0 8).toInt ≤ (u7.2.2.1 h0 9).toInt)) from by (try simp only [i_lt, i_le, i_eq, Int32.toInt_toInt64, Int32.reduceToInt, Int64.reduceToInt, true_and, and_true, false_and, and_false, false_or, or_false, true_or, or_true, not_true_eq_false, not_false_eq_true, ne_eq, forall_const, true_implies, false_implies, implies_true] at c1 eb5 fb5 hr6 ⊢) <;> omega)⟩, by rw [ht]; exact hP, hD⟩, hS.F ht⟩) hS.2.2 dX12_taken_22
  · refine lv_aload_n hx hb dX12_taken_5 rfl (lv_at hl 0 rfl) ?_
    refine lv_iconst (v := 1) hx hb dX12_taken_6 (by decide) ?_
    refine wvV (C := RX12) (As := [.int 1]) (rest := []) ⟨hx, hb, hml, hown, hts⟩ (fun sz => t_X12_errs l D k u0 hu h0 m_h0 k_h0 1 (by decide) sz) (cwV 1 hts gX12_taken_X12_errs rfl rfl rfl (by decide +kernel) ⟨Nat.le_of_ble_eq_true rfl, Nat.le_of_ble_eq_true rfl⟩) hP hK hD hN hS hA (precv hK hP m_h0 (cF12 k_h0) rfl) rfl hl.1 rfl (Nat.le_of_ble_eq_true rfl) dX12_taken_7 ⟨Nat.le_of_ble_eq_true rfl, Nat.le_of_ble_eq_true rfl⟩ (fun u10 H locs hqu10 hP hD hS => ?_)
    obtain ⟨hu, hxu10, z11, hr9⟩ := hqu10
    have hkf := KF.trans hkf hp z11
    have hp := PX.trans hp hxu10
    refine lv_aload_n hx hb dX12_taken_10 rfl (lv_at hl 0 rfl) ?_
    have k_h0 : u10.2.1 h0 = 12 := (hp h0 m0_h0).2.1.trans k0_h0
    have m_h0 : h0 ∈ u10.1 := (hp h0 m0_h0).1
    refine rvi (C := RX12) (As := []) (rest := []) ⟨hx, hb, hml, hown, hts⟩ (t_X12_good l D k u10 hu h0 m_h0 k_h0 ) (cwV 0 hts gX12_taken_X12_good rfl rfl rfl (by decide +kernel) ⟨Nat.le_of_ble_eq_true rfl, Nat.le_of_ble_eq_true rfl⟩) hP hK (precv hK hP m_h0 (cF12 k_h0) rfl) rfl hl.1 rfl (Nat.le_of_ble_eq_true rfl) dX12_taken_11 ⟨Nat.le_of_ble_eq_true rfl, Nat.le_of_ble_eq_true rfl⟩ (fun r12 hr12 => ?_)
    refine lv_if_eq (tgt := 21) hx hb dX12_taken_14 (by decide) (fun c13 => ?_) (fun c13 => ?_)
    · have eb14 : r12.toInt = 0 := by rcases hr12 with ⟨q, -⟩ | ⟨q, -⟩; exact q; (exact absurd (c13) (fun w => by rw [w] at q; exact absurd q (by decide)))
      have fb14 : (u10.2.2.1 h0 12).toInt ≠ 0 := by rcases hr12 with ⟨q, r⟩ | ⟨q, r⟩; exact r; exact absurd q (by omega)
      clear hr12
      refine lv_iload_n hx hb dX12_taken_21 rfl (lv_at hl 1 rfl) ?_
      exact W.iret (v := p1) hx hb hr (fun t ht hW => ⟨⟨p1, u10, rfl, ⟨hu, hp, hkf, (show p1.toInt = p1.toInt ∧ ((u10.2.2.1 h0 12).toInt = 0 → ((u0.2.2.1 h0 12).toInt = 0 ∧ p1.toInt ≠ -1 ∧ (u0.2.2.1 h0 8).toInt ≤ (u10.2.2.1 h0 9).toInt)) from by (try simp only [i_lt, i_le, i_eq, Int32.toInt_toInt64, Int32.reduceToInt, Int64.reduceToInt, true_and, and_true, false_and, and_false, false_or, or_false, true_or, or_true, not_true_eq_false, not_false_eq_true, ne_eq, forall_const, true_implies, false_implies, implies_true] at c1 hr9 eb14 fb14 ⊢) <;> omega)⟩, by rw [ht]; exact hP, hD⟩, hS.F ht⟩) hS.2.2 dX12_taken_22
    · have eb15 : r12.toInt = 1 := by rcases hr12 with ⟨q, -⟩ | ⟨q, -⟩; exact absurd (i_eq.mpr q) c13; exact q
      have fb15 : (u10.2.2.1 h0 12).toInt = 0 := by rcases hr12 with ⟨q, r⟩ | ⟨q, r⟩; exact absurd q (by omega); exact r
      clear hr12
      exact absurd fb15 (by (try simp only [i_lt, i_le, i_eq, Int32.toInt_toInt64, Int32.reduceToInt, Int64.reduceToInt, true_and, and_true, false_and, and_false, false_or, or_false, true_or, or_true, not_true_eq_false, not_false_eq_true, ne_eq, forall_const, true_implies, false_implies, implies_true] at c1 hr9 hr12 ⊢) <;> omega)
set_option maxHeartbeats 4000000 in
set_option maxRecDepth 100000 in
theorem t_X12_comesThere (l : Launch) (D : va_G) (k : Nat → ClassId) (u : PSt) (hu : WT u) (h0 : Nat) (m_h0 : h0 ∈ u.1) (k_h0 : u.2.1 h0 = 12) (p1 : Int32) (g_p1 : 26 ≤ p1.toInt ∧ p1.toInt ≤ 290) (hpre : p1.toInt % 24 = 2) : Met l yX12_comesThere wsX12_comesThere ({ frames := 0, cells := 0, slots := 0, locals := 0 }) (PreR D k (PW k u) [.ref h0, .int p1]) (vp_Si (fun r => 0 ≤ r.toInt ∧ r.toInt ≤ 1)) 0 0 (fun _ => False) := by
  refine Met.ofW (cc := cX12_comesThere) (maxL := 7) (ret := (some .boolean)) (by decide) rfl ?_
  intro p e s m args below meth c s₁ B hml hv
  obtain ⟨rfl, hP, hK⟩ := hv
  have hx := B.exec
  have hb := B.bytes
  have hr := B.returns
  have hts := atoms_spec (ws := wsX12_comesThere) B.pre
  have hown : s.vm.findClass RX12 = some m.cls := findClass_of_methodNamed B.named
  have hlocks := B.notSynchronized
  have i_X12 : ∀ w ∈ wsX120, w ∈ wsX12_comesThere := by decide +kernel
  obtain ⟨a14, q0_14, m0_a14, k0_a14⟩ := (hu h0 m_h0).1 14 51 (by rw [k_h0]; rfl)
  have m_a14 := m0_a14
  have k_a14 := k0_a14
  have B7 : ∀ (n7 : Nat) (ls : Array Slot) (v1 : Int32) (v2 : Int32) (v3 : Int32) (v4 : Int32), (2147483648 - v4.toInt).toNat ≤ n7 → 26 ≤ v1.toInt ∧ v1.toInt ≤ 290 → 0 ≤ v4.toInt ∧ v4.toInt ≤ 8 → (v1.toInt % 24 = 2) → lv_has ls 7 [(0, .ref h0), (1, .int v1), (2, .int v2), (3, .int v3), (4, .int v4)] → W p l e (headSpec wsX12_comesThere ({ frames := 0, cells := 0, slots := 0, locals := 0 })).room s m ([.ref h0, .int p1] : List Value).toArray below meth c s.heap [] 0 0 (MQ below (vp_Si (fun r => 0 ≤ r.toInt ∧ r.toInt ≤ 1)) ([.ref h0, .int p1] : List Value).toArray s 0 0 (fun _ => False)) (F0 m 7 ls []) := by
    intro n7
    induction n7 with
    | zero =>
      intro ls v1 v2 v3 v4 hn7 g_v1 g_v4 ex0 hl
      exact absurd hn7 (by have := Int32.toInt_lt v4; have := Int32.le_toInt v4; omega)
    | succ n7 ih7 =>
      intro ls v1 v2 v3 v4 hn7 g_v1 g_v4 ex0 hl
      refine lv_iload hx hb dX12_comesThere_7 (lv_at hl 4 rfl) ?_
      refine lv_aload_n hx hb dX12_comesThere_9 rfl (lv_at hl 0 rfl) ?_
      refine pget (ci := 12) (v := va_rf (u.2.2.2.2 h0 14)) (C := RX12) (T := TX12) (N := 34) hx hb hts i_X12 hown hK hP m_h0 (cF12 k_h0) rfl 14 (by decide) (hts (.fieldLink RX12 34 "BellowsRowModel" "fresh" "[I") (by decide +kernel)) (fun _ h9 => h9) rfl dX12_comesThere_10 ?_
      refine W.eq (g2 := F0 m 13 ls [.ref a14, .int v4]) (by rw [q0_14]; rfl) ?_
      refine lv_iload_n hx hb dX12_comesThere_13 rfl (lv_at hl 1 rfl) ?_
      refine lv_iconst (v := 3) hx hb dX12_comesThere_14 (by decide) ?_
      refine lv_iadd hx hb dX12_comesThere_15 ?_
      refine lv_topi (fun x1 ex1 => ?_)
      have tx1 : x1.toInt = v1.toInt + (3 : Int32).toInt := by rw [ex1]; exact i_add (by (try simp only [i_lt, i_le, i_eq, Int32.toInt_toInt64, Int32.reduceToInt, Int64.reduceToInt, true_and, and_true, false_and, and_false, false_or, or_false, true_or, or_true, not_true_eq_false, not_false_eq_true, ne_eq, forall_const, true_implies, false_implies, implies_true] at g_v1 g_v4 ex0 hn7 ⊢) <;> omega) (by (try simp only [i_lt, i_le, i_eq, Int32.toInt_toInt64, Int32.reduceToInt, Int64.reduceToInt, true_and, and_true, false_and, and_false, false_or, or_false, true_or, or_true, not_true_eq_false, not_false_eq_true, ne_eq, forall_const, true_implies, false_implies, implies_true] at g_v1 g_v4 ex0 hn7 ⊢) <;> omega)
      refine palI hx hb hK hP m_a14 (cF51 k_a14) 1 rfl (vp_in_iff.mpr (by (try simp only [i_lt, i_le, i_eq, Int32.toInt_toInt64, Int32.reduceToInt, Int64.reduceToInt, true_and, and_true, false_and, and_false, false_or, or_false, true_or, or_true, not_true_eq_false, not_false_eq_true, ne_eq, forall_const, true_implies, false_implies, implies_true] at g_v1 g_v4 ex0 hn7 tx1 ⊢) <;> omega)) dX12_comesThere_16 ?_
      refine lv_topi (fun x2 ex2 => ?_)
      have tx2 : x2.toInt = (u.2.2.1 a14 (x1.toNatClampNeg)).toInt := congrArg Int32.toInt ex2
      have g3 : 0 ≤ x2.toInt ∧ x2.toInt ≤ 8 := by have g : okI (u.2.1 a14) (x1.toNatClampNeg) (u.2.2.1 a14 (x1.toNatClampNeg)) := (hu a14 m_a14).2.2.2 (x1.toNatClampNeg); rw [k_a14, ← (show x2 = u.2.2.1 a14 (x1.toNatClampNeg) from ex2)] at g; have g : okW (x1.toNatClampNeg) x2 := g; unfold okW at g; have z := cl_int (x := x1) (by (try simp only [i_lt, i_le, i_eq, Int32.toInt_toInt64, Int32.reduceToInt, Int64.reduceToInt, true_and, and_true, false_and, and_false, false_or, or_false, true_or, or_true, not_true_eq_false, not_false_eq_true, ne_eq, forall_const, true_implies, false_implies, implies_true] at g_v1 g_v4 ex0 hn7 tx1 tx2 ⊢) <;> omega); (try simp only [i_lt, i_le, i_eq, Int32.toInt_toInt64, Int32.reduceToInt, Int64.reduceToInt, true_and, and_true, false_and, and_false, false_or, or_false, true_or, or_true, not_true_eq_false, not_false_eq_true, ne_eq, forall_const, true_implies, false_implies, implies_true] at g_v1 g_v4 ex0 hn7 tx1 tx2 g z ⊢) <;> omega
      refine lv_icmp_ge (tgt := 101) hx hb dX12_comesThere_17 (by decide) (fun c4 => ?_) (fun c4 => ?_)
      · refine lv_iload_n hx hb dX12_comesThere_101 rfl (lv_at hl 2 rfl) ?_
        refine lv_bipush (v := 100) hx hb dX12_comesThere_102 (by decide) ?_
        refine lv_aload_n hx hb dX12_comesThere_104 rfl (lv_at hl 0 rfl) ?_
        refine pget (ci := 12) (v := va_rf (u.2.2.2.2 h0 14)) (C := RX12) (T := TX12) (N := 34) hx hb hts i_X12 hown hK hP m_h0 (cF12 k_h0) rfl 14 (by decide) (hts (.fieldLink RX12 34 "BellowsRowModel" "fresh" "[I") (by decide +kernel)) (fun _ h9 => h9) rfl dX12_comesThere_105 ?_
        refine W.eq (g2 := F0 m 108 ls [.ref a14, .int 100, .int v2]) (by rw [q0_14]; rfl) ?_
        refine lv_iload_n hx hb dX12_comesThere_108 rfl (lv_at hl 1 rfl) ?_
        refine lv_iconst (v := 1) hx hb dX12_comesThere_109 (by decide) ?_
        refine lv_iadd hx hb dX12_comesThere_110 ?_
        refine lv_topi (fun x5 ex5 => ?_)
        have tx5 : x5.toInt = v1.toInt + (1 : Int32).toInt := by rw [ex5]; exact i_add (by (try simp only [i_lt, i_le, i_eq, Int32.toInt_toInt64, Int32.reduceToInt, Int64.reduceToInt, true_and, and_true, false_and, and_false, false_or, or_false, true_or, or_true, not_true_eq_false, not_false_eq_true, ne_eq, forall_const, true_implies, false_implies, implies_true] at g_v1 g_v4 ex0 hn7 tx1 tx2 g3 c4 ⊢) <;> omega) (by (try simp only [i_lt, i_le, i_eq, Int32.toInt_toInt64, Int32.reduceToInt, Int64.reduceToInt, true_and, and_true, false_and, and_false, false_or, or_false, true_or, or_true, not_true_eq_false, not_false_eq_true, ne_eq, forall_const, true_implies, false_implies, implies_true] at g_v1 g_v4 ex0 hn7 tx1 tx2 g3 c4 ⊢) <;> omega)
        refine palI hx hb hK hP m_a14 (cF51 k_a14) 1 rfl (vp_in_iff.mpr (by (try simp only [i_lt, i_le, i_eq, Int32.toInt_toInt64, Int32.reduceToInt, Int64.reduceToInt, true_and, and_true, false_and, and_false, false_or, or_false, true_or, or_true, not_true_eq_false, not_false_eq_true, ne_eq, forall_const, true_implies, false_implies, implies_true] at g_v1 g_v4 ex0 hn7 tx1 tx2 g3 c4 tx5 ⊢) <;> omega)) dX12_comesThere_111 ?_
        refine lv_topi (fun x6 ex6 => ?_)
        have tx6 : x6.toInt = (u.2.2.1 a14 (x5.toNatClampNeg)).toInt := congrArg Int32.toInt ex6
        have g7 : 0 ≤ x6.toInt ∧ x6.toInt ≤ 7 := by have g : okI (u.2.1 a14) (x5.toNatClampNeg) (u.2.2.1 a14 (x5.toNatClampNeg)) := (hu a14 m_a14).2.2.2 (x5.toNatClampNeg); rw [k_a14, ← (show x6 = u.2.2.1 a14 (x5.toNatClampNeg) from ex6)] at g; have g : okW (x5.toNatClampNeg) x6 := g; unfold okW at g; have z := cl_int (x := x5) (by (try simp only [i_lt, i_le, i_eq, Int32.toInt_toInt64, Int32.reduceToInt, Int64.reduceToInt, true_and, and_true, false_and, and_false, false_or, or_false, true_or, or_true, not_true_eq_false, not_false_eq_true, ne_eq, forall_const, true_implies, false_implies, implies_true] at g_v1 g_v4 ex0 hn7 tx1 tx2 g3 c4 tx5 tx6 ⊢) <;> omega); (try simp only [i_lt, i_le, i_eq, Int32.toInt_toInt64, Int32.reduceToInt, Int64.reduceToInt, true_and, and_true, false_and, and_false, false_or, or_false, true_or, or_true, not_true_eq_false, not_false_eq_true, ne_eq, forall_const, true_implies, false_implies, implies_true] at g_v1 g_v4 ex0 hn7 tx1 tx2 g3 c4 tx5 tx6 g z ⊢) <;> omega
        refine lv_aload_n hx hb dX12_comesThere_112 rfl (lv_at hl 0 rfl) ?_
        refine pget (ci := 12) (v := va_rf (u.2.2.2.2 h0 14)) (C := RX12) (T := TX12) (N := 34) hx hb hts i_X12 hown hK hP m_h0 (cF12 k_h0) rfl 14 (by decide) (hts (.fieldLink RX12 34 "BellowsRowModel" "fresh" "[I") (by decide +kernel)) (fun _ h9 => h9) rfl dX12_comesThere_113 ?_
        refine W.eq (g2 := F0 m 116 ls [.ref a14, .int x6, .int 100, .int v2]) (by rw [q0_14]; rfl) ?_
        refine lv_iload_n hx hb dX12_comesThere_116 rfl (lv_at hl 1 rfl) ?_
        refine lv_iconst (v := 0) hx hb dX12_comesThere_117 (by decide) ?_
        refine lv_iadd hx hb dX12_comesThere_118 ?_
        refine lv_topi (fun x8 ex8 => ?_)
        have tx8 : x8.toInt = v1.toInt + (0 : Int32).toInt := by rw [ex8]; exact i_add (by (try simp only [i_lt, i_le, i_eq, Int32.toInt_toInt64, Int32.reduceToInt, Int64.reduceToInt, true_and, and_true, false_and, and_false, false_or, or_false, true_or, or_true, not_true_eq_false, not_false_eq_true, ne_eq, forall_const, true_implies, false_implies, implies_true] at g_v1 g_v4 ex0 hn7 tx1 tx2 g3 c4 tx5 tx6 g7 ⊢) <;> omega) (by (try simp only [i_lt, i_le, i_eq, Int32.toInt_toInt64, Int32.reduceToInt, Int64.reduceToInt, true_and, and_true, false_and, and_false, false_or, or_false, true_or, or_true, not_true_eq_false, not_false_eq_true, ne_eq, forall_const, true_implies, false_implies, implies_true] at g_v1 g_v4 ex0 hn7 tx1 tx2 g3 c4 tx5 tx6 g7 ⊢) <;> omega)
        refine palI hx hb hK hP m_a14 (cF51 k_a14) 1 rfl (vp_in_iff.mpr (by (try simp only [i_lt, i_le, i_eq, Int32.toInt_toInt64, Int32.reduceToInt, Int64.reduceToInt, true_and, and_true, false_and, and_false, false_or, or_false, true_or, or_true, not_true_eq_false, not_false_eq_true, ne_eq, forall_const, true_implies, false_implies, implies_true] at g_v1 g_v4 ex0 hn7 tx1 tx2 g3 c4 tx5 tx6 g7 tx8 ⊢) <;> omega)) dX12_comesThere_119 ?_
        refine lv_topi (fun x9 ex9 => ?_)
        have tx9 : x9.toInt = (u.2.2.1 a14 (x8.toNatClampNeg)).toInt := congrArg Int32.toInt ex9
        have g10 : 0 ≤ x9.toInt ∧ x9.toInt ≤ 7 := by have g : okI (u.2.1 a14) (x8.toNatClampNeg) (u.2.2.1 a14 (x8.toNatClampNeg)) := (hu a14 m_a14).2.2.2 (x8.toNatClampNeg); rw [k_a14, ← (show x9 = u.2.2.1 a14 (x8.toNatClampNeg) from ex9)] at g; have g : okW (x8.toNatClampNeg) x9 := g; unfold okW at g; have z := cl_int (x := x8) (by (try simp only [i_lt, i_le, i_eq, Int32.toInt_toInt64, Int32.reduceToInt, Int64.reduceToInt, true_and, and_true, false_and, and_false, false_or, or_false, true_or, or_true, not_true_eq_false, not_false_eq_true, ne_eq, forall_const, true_implies, false_implies, implies_true] at g_v1 g_v4 ex0 hn7 tx1 tx2 g3 c4 tx5 tx6 g7 tx8 tx9 ⊢) <;> omega); (try simp only [i_lt, i_le, i_eq, Int32.toInt_toInt64, Int32.reduceToInt, Int64.reduceToInt, true_and, and_true, false_and, and_false, false_or, or_false, true_or, or_true, not_true_eq_false, not_false_eq_true, ne_eq, forall_const, true_implies, false_implies, implies_true] at g_v1 g_v4 ex0 hn7 tx1 tx2 g3 c4 tx5 tx6 g7 tx8 tx9 g z ⊢) <;> omega
        refine lv_isub hx hb dX12_comesThere_120 ?_
        refine lv_topi (fun x11 ex11 => ?_)
        have tx11 : x11.toInt = x6.toInt - x9.toInt := by rw [ex11]; exact i_sub (by (try simp only [i_lt, i_le, i_eq, Int32.toInt_toInt64, Int32.reduceToInt, Int64.reduceToInt, true_and, and_true, false_and, and_false, false_or, or_false, true_or, or_true, not_true_eq_false, not_false_eq_true, ne_eq, forall_const, true_implies, false_implies, implies_true] at g_v1 g_v4 ex0 hn7 tx1 tx2 g3 c4 tx5 tx6 g7 tx8 tx9 g10 ⊢) <;> omega) (by (try simp only [i_lt, i_le, i_eq, Int32.toInt_toInt64, Int32.reduceToInt, Int64.reduceToInt, true_and, and_true, false_and, and_false, false_or, or_false, true_or, or_true, not_true_eq_false, not_false_eq_true, ne_eq, forall_const, true_implies, false_implies, implies_true] at g_v1 g_v4 ex0 hn7 tx1 tx2 g3 c4 tx5 tx6 g7 tx8 tx9 g10 ⊢) <;> omega)
        refine lv_imul hx hb dX12_comesThere_121 ?_
        refine lv_topi (fun x12 ex12 => ?_)
        refine lv_icmp_ne (tgt := 170) hx hb dX12_comesThere_122 (by decide) (fun c13 => ?_) (fun c13 => ?_)
        · have b14 := Int32.toInt_lt v2
          have b15 := Int32.toInt_lt x12
          refine lv_iconst (v := 0) hx hb dX12_comesThere_170 (by decide) ?_
          exact W.zret (v := 0) hx hb hr rfl (fun t ht hW => ⟨0, rfl, (by decide), ht⟩) (fun q h => by cases h) dX12_comesThere_171
        · have b16 := Int32.toInt_lt v2
          have b17 := Int32.toInt_lt x12
          refine lv_iload_n hx hb dX12_comesThere_125 rfl (lv_at hl 3 rfl) ?_
          refine lv_aload_n hx hb dX12_comesThere_126 rfl (lv_at hl 0 rfl) ?_
          refine pget (ci := 12) (v := va_rf (u.2.2.2.2 h0 14)) (C := RX12) (T := TX12) (N := 34) hx hb hts i_X12 hown hK hP m_h0 (cF12 k_h0) rfl 14 (by decide) (hts (.fieldLink RX12 34 "BellowsRowModel" "fresh" "[I") (by decide +kernel)) (fun _ h9 => h9) rfl dX12_comesThere_127 ?_
          refine W.eq (g2 := F0 m 130 ls [.ref a14, .int v3]) (by rw [q0_14]; rfl) ?_
          refine lv_bipush (v := 10) hx hb dX12_comesThere_130 (by decide) ?_
          refine lv_iconst (v := 2) hx hb dX12_comesThere_132 (by decide) ?_
          refine lv_aload_n hx hb dX12_comesThere_133 rfl (lv_at hl 0 rfl) ?_
          refine pget (ci := 12) (v := va_rf (u.2.2.2.2 h0 14)) (C := RX12) (T := TX12) (N := 34) hx hb hts i_X12 hown hK hP m_h0 (cF12 k_h0) rfl 14 (by decide) (hts (.fieldLink RX12 34 "BellowsRowModel" "fresh" "[I") (by decide +kernel)) (fun _ h9 => h9) rfl dX12_comesThere_134 ?_
          refine W.eq (g2 := F0 m 137 ls [.ref a14, .int 2, .int 10, .ref a14, .int v3]) (by rw [q0_14]; rfl) ?_
          refine lv_iload_n hx hb dX12_comesThere_137 rfl (lv_at hl 1 rfl) ?_
          refine lv_iconst (v := 1) hx hb dX12_comesThere_138 (by decide) ?_
          refine lv_iadd hx hb dX12_comesThere_139 ?_
          refine lv_topi (fun x18 ex18 => ?_)
          have tx18 : x18.toInt = v1.toInt + (1 : Int32).toInt := by rw [ex18]; exact i_add (by (try simp only [i_lt, i_le, i_eq, Int32.toInt_toInt64, Int32.reduceToInt, Int64.reduceToInt, true_and, and_true, false_and, and_false, false_or, or_false, true_or, or_true, not_true_eq_false, not_false_eq_true, ne_eq, forall_const, true_implies, false_implies, implies_true] at g_v1 g_v4 ex0 hn7 tx1 tx2 g3 c4 tx5 tx6 g7 tx8 tx9 g10 tx11 c13 b16 b17 ⊢) <;> omega) (by (try simp only [i_lt, i_le, i_eq, Int32.toInt_toInt64, Int32.reduceToInt, Int64.reduceToInt, true_and, and_true, false_and, and_false, false_or, or_false, true_or, or_true, not_true_eq_false, not_false_eq_true, ne_eq, forall_const, true_implies, false_implies, implies_true] at g_v1 g_v4 ex0 hn7 tx1 tx2 g3 c4 tx5 tx6 g7 tx8 tx9 g10 tx11 c13 b16 b17 ⊢) <;> omega)
          refine palI hx hb hK hP m_a14 (cF51 k_a14) 1 rfl (vp_in_iff.mpr (by (try simp only [i_lt, i_le, i_eq, Int32.toInt_toInt64, Int32.reduceToInt, Int64.reduceToInt, true_and, and_true, false_and, and_false, false_or, or_false, true_or, or_true, not_true_eq_false, not_false_eq_true, ne_eq, forall_const, true_implies, false_implies, implies_true] at g_v1 g_v4 ex0 hn7 tx1 tx2 g3 c4 tx5 tx6 g7 tx8 tx9 g10 tx11 c13 b16 b17 tx18 ⊢) <;> omega)) dX12_comesThere_140 ?_
          refine lv_topi (fun x19 ex19 => ?_)
          have tx19 : x19.toInt = (u.2.2.1 a14 (x18.toNatClampNeg)).toInt := congrArg Int32.toInt ex19
          have g20 : 0 ≤ x19.toInt ∧ x19.toInt ≤ 7 := by have g : okI (u.2.1 a14) (x18.toNatClampNeg) (u.2.2.1 a14 (x18.toNatClampNeg)) := (hu a14 m_a14).2.2.2 (x18.toNatClampNeg); rw [k_a14, ← (show x19 = u.2.2.1 a14 (x18.toNatClampNeg) from ex19)] at g; have g : okW (x18.toNatClampNeg) x19 := g; unfold okW at g; have z := cl_int (x := x18) (by (try simp only [i_lt, i_le, i_eq, Int32.toInt_toInt64, Int32.reduceToInt, Int64.reduceToInt, true_and, and_true, false_and, and_false, false_or, or_false, true_or, or_true, not_true_eq_false, not_false_eq_true, ne_eq, forall_const, true_implies, false_implies, implies_true] at g_v1 g_v4 ex0 hn7 tx1 tx2 g3 c4 tx5 tx6 g7 tx8 tx9 g10 tx11 c13 b16 b17 tx18 tx19 ⊢) <;> omega); (try simp only [i_lt, i_le, i_eq, Int32.toInt_toInt64, Int32.reduceToInt, Int64.reduceToInt, true_and, and_true, false_and, and_false, false_or, or_false, true_or, or_true, not_true_eq_false, not_false_eq_true, ne_eq, forall_const, true_implies, false_implies, implies_true] at g_v1 g_v4 ex0 hn7 tx1 tx2 g3 c4 tx5 tx6 g7 tx8 tx9 g10 tx11 c13 b16 b17 tx18 tx19 g z ⊢) <;> omega
          refine lv_imul hx hb dX12_comesThere_141 ?_
          refine lv_topi (fun x21 ex21 => ?_)
          have tx21 : x21.toInt = 2 * x19.toInt := by rw [ex21]; exact i_mulc (c := 2) (by decide) ((show 0 ≤ x19.toInt ∧ x19.toInt ≤ 7 from by (try simp only [i_lt, i_le, i_eq, Int32.toInt_toInt64, Int32.reduceToInt, Int64.reduceToInt, true_and, and_true, false_and, and_false, false_or, or_false, true_or, or_true, not_true_eq_false, not_false_eq_true, ne_eq, forall_const, true_implies, false_implies, implies_true] at g_v1 g_v4 ex0 hn7 tx1 tx2 g3 c4 tx5 tx6 g7 tx8 tx9 g10 tx11 c13 b16 b17 tx18 tx19 g20 ⊢) <;> omega)) (by decide)
          refine lv_iadd hx hb dX12_comesThere_142 ?_
          refine lv_topi (fun x22 ex22 => ?_)
          have tx22 : x22.toInt = (10 : Int32).toInt + x21.toInt := by rw [ex22]; exact i_add (by (try simp only [i_lt, i_le, i_eq, Int32.toInt_toInt64, Int32.reduceToInt, Int64.reduceToInt, true_and, and_true, false_and, and_false, false_or, or_false, true_or, or_true, not_true_eq_false, not_false_eq_true, ne_eq, forall_const, true_implies, false_implies, implies_true] at g_v1 g_v4 ex0 hn7 tx1 tx2 g3 c4 tx5 tx6 g7 tx8 tx9 g10 tx11 c13 b16 b17 tx18 tx19 g20 tx21 ⊢) <;> omega) (by (try simp only [i_lt, i_le, i_eq, Int32.toInt_toInt64, Int32.reduceToInt, Int64.reduceToInt, true_and, and_true, false_and, and_false, false_or, or_false, true_or, or_true, not_true_eq_false, not_false_eq_true, ne_eq, forall_const, true_implies, false_implies, implies_true] at g_v1 g_v4 ex0 hn7 tx1 tx2 g3 c4 tx5 tx6 g7 tx8 tx9 g10 tx11 c13 b16 b17 tx18 tx19 g20 tx21 ⊢) <;> omega)
          refine palI hx hb hK hP m_a14 (cF51 k_a14) 1 rfl (vp_in_iff.mpr (by (try simp only [i_lt, i_le, i_eq, Int32.toInt_toInt64, Int32.reduceToInt, Int64.reduceToInt, true_and, and_true, false_and, and_false, false_or, or_false, true_or, or_true, not_true_eq_false, not_false_eq_true, ne_eq, forall_const, true_implies, false_implies, implies_true] at g_v1 g_v4 ex0 hn7 tx1 tx2 g3 c4 tx5 tx6 g7 tx8 tx9 g10 tx11 c13 b16 b17 tx18 tx19 g20 tx21 tx22 ⊢) <;> omega)) dX12_comesThere_143 ?_
          refine lv_topi (fun x23 ex23 => ?_)
          have tx23 : x23.toInt = (u.2.2.1 a14 (x22.toNatClampNeg)).toInt := congrArg Int32.toInt ex23
          refine lv_aload_n hx hb dX12_comesThere_144 rfl (lv_at hl 0 rfl) ?_
          refine pget (ci := 12) (v := va_rf (u.2.2.2.2 h0 14)) (C := RX12) (T := TX12) (N := 34) hx hb hts i_X12 hown hK hP m_h0 (cF12 k_h0) rfl 14 (by decide) (hts (.fieldLink RX12 34 "BellowsRowModel" "fresh" "[I") (by decide +kernel)) (fun _ h9 => h9) rfl dX12_comesThere_145 ?_
          refine W.eq (g2 := F0 m 148 ls [.ref a14, .int x23, .int v3]) (by rw [q0_14]; rfl) ?_
          refine lv_bipush (v := 10) hx hb dX12_comesThere_148 (by decide) ?_
          refine lv_iconst (v := 2) hx hb dX12_comesThere_150 (by decide) ?_
          refine lv_aload_n hx hb dX12_comesThere_151 rfl (lv_at hl 0 rfl) ?_
          refine pget (ci := 12) (v := va_rf (u.2.2.2.2 h0 14)) (C := RX12) (T := TX12) (N := 34) hx hb hts i_X12 hown hK hP m_h0 (cF12 k_h0) rfl 14 (by decide) (hts (.fieldLink RX12 34 "BellowsRowModel" "fresh" "[I") (by decide +kernel)) (fun _ h9 => h9) rfl dX12_comesThere_152 ?_
          refine W.eq (g2 := F0 m 155 ls [.ref a14, .int 2, .int 10, .ref a14, .int x23, .int v3]) (by rw [q0_14]; rfl) ?_
          refine lv_iload_n hx hb dX12_comesThere_155 rfl (lv_at hl 1 rfl) ?_
          refine lv_iconst (v := 0) hx hb dX12_comesThere_156 (by decide) ?_
          refine lv_iadd hx hb dX12_comesThere_157 ?_
          refine lv_topi (fun x24 ex24 => ?_)
          have tx24 : x24.toInt = v1.toInt + (0 : Int32).toInt := by rw [ex24]; exact i_add (by (try simp only [i_lt, i_le, i_eq, Int32.toInt_toInt64, Int32.reduceToInt, Int64.reduceToInt, true_and, and_true, false_and, and_false, false_or, or_false, true_or, or_true, not_true_eq_false, not_false_eq_true, ne_eq, forall_const, true_implies, false_implies, implies_true] at g_v1 g_v4 ex0 hn7 tx1 tx2 g3 c4 tx5 tx6 g7 tx8 tx9 g10 tx11 c13 b16 b17 tx18 tx19 g20 tx21 tx22 tx23 ⊢) <;> omega) (by (try simp only [i_lt, i_le, i_eq, Int32.toInt_toInt64, Int32.reduceToInt, Int64.reduceToInt, true_and, and_true, false_and, and_false, false_or, or_false, true_or, or_true, not_true_eq_false, not_false_eq_true, ne_eq, forall_const, true_implies, false_implies, implies_true] at g_v1 g_v4 ex0 hn7 tx1 tx2 g3 c4 tx5 tx6 g7 tx8 tx9 g10 tx11 c13 b16 b17 tx18 tx19 g20 tx21 tx22 tx23 ⊢) <;> omega)
          refine palI hx hb hK hP m_a14 (cF51 k_a14) 1 rfl (vp_in_iff.mpr (by (try simp only [i_lt, i_le, i_eq, Int32.toInt_toInt64, Int32.reduceToInt, Int64.reduceToInt, true_and, and_true, false_and, and_false, false_or, or_false, true_or, or_true, not_true_eq_false, not_false_eq_true, ne_eq, forall_const, true_implies, false_implies, implies_true] at g_v1 g_v4 ex0 hn7 tx1 tx2 g3 c4 tx5 tx6 g7 tx8 tx9 g10 tx11 c13 b16 b17 tx18 tx19 g20 tx21 tx22 tx23 tx24 ⊢) <;> omega)) dX12_comesThere_158 ?_
          refine lv_topi (fun x25 ex25 => ?_)
          have tx25 : x25.toInt = (u.2.2.1 a14 (x24.toNatClampNeg)).toInt := congrArg Int32.toInt ex25
          have g26 : 0 ≤ x25.toInt ∧ x25.toInt ≤ 7 := by have g : okI (u.2.1 a14) (x24.toNatClampNeg) (u.2.2.1 a14 (x24.toNatClampNeg)) := (hu a14 m_a14).2.2.2 (x24.toNatClampNeg); rw [k_a14, ← (show x25 = u.2.2.1 a14 (x24.toNatClampNeg) from ex25)] at g; have g : okW (x24.toNatClampNeg) x25 := g; unfold okW at g; have z := cl_int (x := x24) (by (try simp only [i_lt, i_le, i_eq, Int32.toInt_toInt64, Int32.reduceToInt, Int64.reduceToInt, true_and, and_true, false_and, and_false, false_or, or_false, true_or, or_true, not_true_eq_false, not_false_eq_true, ne_eq, forall_const, true_implies, false_implies, implies_true] at g_v1 g_v4 ex0 hn7 tx1 tx2 g3 c4 tx5 tx6 g7 tx8 tx9 g10 tx11 c13 b16 b17 tx18 tx19 g20 tx21 tx22 tx23 tx24 tx25 ⊢) <;> omega); (try simp only [i_lt, i_le, i_eq, Int32.toInt_toInt64, Int32.reduceToInt, Int64.reduceToInt, true_and, and_true, false_and, and_false, false_or, or_false, true_or, or_true, not_true_eq_false, not_false_eq_true, ne_eq, forall_const, true_implies, false_implies, implies_true] at g_v1 g_v4 ex0 hn7 tx1 tx2 g3 c4 tx5 tx6 g7 tx8 tx9 g10 tx11 c13 b16 b17 tx18 tx19 g20 tx21 tx22 tx23 tx24 tx25 g z ⊢) <;> omega
          refine lv_imul hx hb dX12_comesThere_159 ?_
          refine lv_topi (fun x27 ex27 => ?_)
          have tx27 : x27.toInt = 2 * x25.toInt := by rw [ex27]; exact i_mulc (c := 2) (by decide) ((show 0 ≤ x25.toInt ∧ x25.toInt ≤ 7 from by (try simp only [i_lt, i_le, i_eq, Int32.toInt_toInt64, Int32.reduceToInt, Int64.reduceToInt, true_and, and_true, false_and, and_false, false_or, or_false, true_or, or_true, not_true_eq_false, not_false_eq_true, ne_eq, forall_const, true_implies, false_implies, implies_true] at g_v1 g_v4 ex0 hn7 tx1 tx2 g3 c4 tx5 tx6 g7 tx8 tx9 g10 tx11 c13 b16 b17 tx18 tx19 g20 tx21 tx22 tx23 tx24 tx25 g26 ⊢) <;> omega)) (by decide)
          refine lv_iadd hx hb dX12_comesThere_160 ?_
          refine lv_topi (fun x28 ex28 => ?_)
          have tx28 : x28.toInt = (10 : Int32).toInt + x27.toInt := by rw [ex28]; exact i_add (by (try simp only [i_lt, i_le, i_eq, Int32.toInt_toInt64, Int32.reduceToInt, Int64.reduceToInt, true_and, and_true, false_and, and_false, false_or, or_false, true_or, or_true, not_true_eq_false, not_false_eq_true, ne_eq, forall_const, true_implies, false_implies, implies_true] at g_v1 g_v4 ex0 hn7 tx1 tx2 g3 c4 tx5 tx6 g7 tx8 tx9 g10 tx11 c13 b16 b17 tx18 tx19 g20 tx21 tx22 tx23 tx24 tx25 g26 tx27 ⊢) <;> omega) (by (try simp only [i_lt, i_le, i_eq, Int32.toInt_toInt64, Int32.reduceToInt, Int64.reduceToInt, true_and, and_true, false_and, and_false, false_or, or_false, true_or, or_true, not_true_eq_false, not_false_eq_true, ne_eq, forall_const, true_implies, false_implies, implies_true] at g_v1 g_v4 ex0 hn7 tx1 tx2 g3 c4 tx5 tx6 g7 tx8 tx9 g10 tx11 c13 b16 b17 tx18 tx19 g20 tx21 tx22 tx23 tx24 tx25 g26 tx27 ⊢) <;> omega)
          refine palI hx hb hK hP m_a14 (cF51 k_a14) 1 rfl (vp_in_iff.mpr (by (try simp only [i_lt, i_le, i_eq, Int32.toInt_toInt64, Int32.reduceToInt, Int64.reduceToInt, true_and, and_true, false_and, and_false, false_or, or_false, true_or, or_true, not_true_eq_false, not_false_eq_true, ne_eq, forall_const, true_implies, false_implies, implies_true] at g_v1 g_v4 ex0 hn7 tx1 tx2 g3 c4 tx5 tx6 g7 tx8 tx9 g10 tx11 c13 b16 b17 tx18 tx19 g20 tx21 tx22 tx23 tx24 tx25 g26 tx27 tx28 ⊢) <;> omega)) dX12_comesThere_161 ?_
          refine lv_topi (fun x29 ex29 => ?_)
          have tx29 : x29.toInt = (u.2.2.1 a14 (x28.toNatClampNeg)).toInt := congrArg Int32.toInt ex29
          refine lv_isub hx hb dX12_comesThere_162 ?_
          refine lv_topi (fun x30 ex30 => ?_)
          refine lv_icmp_ne (tgt := 170) hx hb dX12_comesThere_163 (by decide) (fun c31 => ?_) (fun c31 => ?_)
          · have b32 := Int32.toInt_lt v3
            have b33 := Int32.toInt_lt x30
            refine lv_iconst (v := 0) hx hb dX12_comesThere_170 (by decide) ?_
            exact W.zret (v := 0) hx hb hr rfl (fun t ht hW => ⟨0, rfl, (by decide), ht⟩) (fun q h => by cases h) dX12_comesThere_171
          · have b34 := Int32.toInt_lt v3
            have b35 := Int32.toInt_lt x30
            refine lv_iconst (v := 1) hx hb dX12_comesThere_166 (by decide) ?_
            refine lv_goto (tgt := 171) hx hb dX12_comesThere_167 (by decide) ?_
            exact W.zret (v := 1) hx hb hr rfl (fun t ht hW => ⟨1, rfl, (by decide), ht⟩) (fun q h => by cases h) dX12_comesThere_171
      · refine lv_aload_n hx hb dX12_comesThere_20 rfl (lv_at hl 0 rfl) ?_
        refine pget (ci := 12) (v := va_rf (u.2.2.2.2 h0 14)) (C := RX12) (T := TX12) (N := 34) hx hb hts i_X12 hown hK hP m_h0 (cF12 k_h0) rfl 14 (by decide) (hts (.fieldLink RX12 34 "BellowsRowModel" "fresh" "[I") (by decide +kernel)) (fun _ h9 => h9) rfl dX12_comesThere_21 ?_
        refine W.eq (g2 := F0 m 24 ls [.ref a14]) (by rw [q0_14]; rfl) ?_
        refine lv_iload_n hx hb dX12_comesThere_24 rfl (lv_at hl 1 rfl) ?_
        refine lv_bipush (v := 8) hx hb dX12_comesThere_25 (by decide) ?_
        refine lv_iadd hx hb dX12_comesThere_27 ?_
        refine lv_topi (fun x36 ex36 => ?_)
        have tx36 : x36.toInt = v1.toInt + (8 : Int32).toInt := by rw [ex36]; exact i_add (by (try simp only [i_lt, i_le, i_eq, Int32.toInt_toInt64, Int32.reduceToInt, Int64.reduceToInt, true_and, and_true, false_and, and_false, false_or, or_false, true_or, or_true, not_true_eq_false, not_false_eq_true, ne_eq, forall_const, true_implies, false_implies, implies_true] at g_v1 g_v4 ex0 hn7 tx1 tx2 g3 c4 ⊢) <;> omega) (by (try simp only [i_lt, i_le, i_eq, Int32.toInt_toInt64, Int32.reduceToInt, Int64.reduceToInt, true_and, and_true, false_and, and_false, false_or, or_false, true_or, or_true, not_true_eq_false, not_false_eq_true, ne_eq, forall_const, true_implies, false_implies, implies_true] at g_v1 g_v4 ex0 hn7 tx1 tx2 g3 c4 ⊢) <;> omega)
        refine lv_iconst (v := 2) hx hb dX12_comesThere_28 (by decide) ?_
        refine lv_iload hx hb dX12_comesThere_29 (lv_at hl 4 rfl) ?_
        refine lv_imul hx hb dX12_comesThere_31 ?_
        refine lv_topi (fun x37 ex37 => ?_)
        have tx37 : x37.toInt = 2 * v4.toInt := by rw [ex37]; exact i_mulc (c := 2) (by decide) ((show 0 ≤ v4.toInt ∧ v4.toInt ≤ 7 from by (try simp only [i_lt, i_le, i_eq, Int32.toInt_toInt64, Int32.reduceToInt, Int64.reduceToInt, true_and, and_true, false_and, and_false, false_or, or_false, true_or, or_true, not_true_eq_false, not_false_eq_true, ne_eq, forall_const, true_implies, false_implies, implies_true] at g_v1 g_v4 ex0 hn7 tx1 tx2 g3 c4 tx36 ⊢) <;> omega)) (by decide)
        refine lv_iadd hx hb dX12_comesThere_32 ?_
        refine lv_topi (fun x38 ex38 => ?_)
        have tx38 : x38.toInt = x36.toInt + x37.toInt := by rw [ex38]; exact i_add (by (try simp only [i_lt, i_le, i_eq, Int32.toInt_toInt64, Int32.reduceToInt, Int64.reduceToInt, true_and, and_true, false_and, and_false, false_or, or_false, true_or, or_true, not_true_eq_false, not_false_eq_true, ne_eq, forall_const, true_implies, false_implies, implies_true] at g_v1 g_v4 ex0 hn7 tx1 tx2 g3 c4 tx36 tx37 ⊢) <;> omega) (by (try simp only [i_lt, i_le, i_eq, Int32.toInt_toInt64, Int32.reduceToInt, Int64.reduceToInt, true_and, and_true, false_and, and_false, false_or, or_false, true_or, or_true, not_true_eq_false, not_false_eq_true, ne_eq, forall_const, true_implies, false_implies, implies_true] at g_v1 g_v4 ex0 hn7 tx1 tx2 g3 c4 tx36 tx37 ⊢) <;> omega)
        refine lv_iconst (v := 1) hx hb dX12_comesThere_33 (by decide) ?_
        refine lv_iadd hx hb dX12_comesThere_34 ?_
        refine lv_topi (fun x39 ex39 => ?_)
        have tx39 : x39.toInt = x38.toInt + (1 : Int32).toInt := by rw [ex39]; exact i_add (by (try simp only [i_lt, i_le, i_eq, Int32.toInt_toInt64, Int32.reduceToInt, Int64.reduceToInt, true_and, and_true, false_and, and_false, false_or, or_false, true_or, or_true, not_true_eq_false, not_false_eq_true, ne_eq, forall_const, true_implies, false_implies, implies_true] at g_v1 g_v4 ex0 hn7 tx1 tx2 g3 c4 tx36 tx37 tx38 ⊢) <;> omega) (by (try simp only [i_lt, i_le, i_eq, Int32.toInt_toInt64, Int32.reduceToInt, Int64.reduceToInt, true_and, and_true, false_and, and_false, false_or, or_false, true_or, or_true, not_true_eq_false, not_false_eq_true, ne_eq, forall_const, true_implies, false_implies, implies_true] at g_v1 g_v4 ex0 hn7 tx1 tx2 g3 c4 tx36 tx37 tx38 ⊢) <;> omega)
        refine palI hx hb hK hP m_a14 (cF51 k_a14) 1 rfl (vp_in_iff.mpr (by (try simp only [i_lt, i_le, i_eq, Int32.toInt_toInt64, Int32.reduceToInt, Int64.reduceToInt, true_and, and_true, false_and, and_false, false_or, or_false, true_or, or_true, not_true_eq_false, not_false_eq_true, ne_eq, forall_const, true_implies, false_implies, implies_true] at g_v1 g_v4 ex0 hn7 tx1 tx2 g3 c4 tx36 tx37 tx38 tx39 ⊢) <;> omega)) dX12_comesThere_35 ?_
        refine lv_topi (fun x40 ex40 => ?_)
        have tx40 : x40.toInt = (u.2.2.1 a14 (x39.toNatClampNeg)).toInt := congrArg Int32.toInt ex40
        refine lv_istore (lv' := [(5, .int x40), (0, .ref h0), (1, .int v1), (2, .int v2), (3, .int v3), (4, .int v4)]) hx hb dX12_comesThere_36 hl (by decide) rfl (fun ls hl => ?_)
        refine lv_aload_n hx hb dX12_comesThere_38 rfl (lv_at hl 1 rfl) ?_
        refine pget (ci := 12) (v := va_rf (u.2.2.2.2 h0 14)) (C := RX12) (T := TX12) (N := 34) hx hb hts i_X12 hown hK hP m_h0 (cF12 k_h0) rfl 14 (by decide) (hts (.fieldLink RX12 34 "BellowsRowModel" "fresh" "[I") (by decide +kernel)) (fun _ h9 => h9) rfl dX12_comesThere_39 ?_
        refine W.eq (g2 := F0 m 42 ls [.ref a14]) (by rw [q0_14]; rfl) ?_
        refine lv_iload_n hx hb dX12_comesThere_42 rfl (lv_at hl 2 rfl) ?_
        refine lv_bipush (v := 8) hx hb dX12_comesThere_43 (by decide) ?_
        refine lv_iadd hx hb dX12_comesThere_45 ?_
        refine lv_topi (fun x41 ex41 => ?_)
        have tx41 : x41.toInt = v1.toInt + (8 : Int32).toInt := by rw [ex41]; exact i_add (by (try simp only [i_lt, i_le, i_eq, Int32.toInt_toInt64, Int32.reduceToInt, Int64.reduceToInt, true_and, and_true, false_and, and_false, false_or, or_false, true_or, or_true, not_true_eq_false, not_false_eq_true, ne_eq, forall_const, true_implies, false_implies, implies_true] at g_v1 g_v4 ex0 hn7 tx1 tx2 g3 c4 tx36 tx37 tx38 tx39 tx40 ⊢) <;> omega) (by (try simp only [i_lt, i_le, i_eq, Int32.toInt_toInt64, Int32.reduceToInt, Int64.reduceToInt, true_and, and_true, false_and, and_false, false_or, or_false, true_or, or_true, not_true_eq_false, not_false_eq_true, ne_eq, forall_const, true_implies, false_implies, implies_true] at g_v1 g_v4 ex0 hn7 tx1 tx2 g3 c4 tx36 tx37 tx38 tx39 tx40 ⊢) <;> omega)
        refine lv_iconst (v := 2) hx hb dX12_comesThere_46 (by decide) ?_
        refine lv_iload hx hb dX12_comesThere_47 (lv_at hl 5 rfl) ?_
        refine lv_imul hx hb dX12_comesThere_49 ?_
        refine lv_topi (fun x42 ex42 => ?_)
        have tx42 : x42.toInt = 2 * v4.toInt := by rw [ex42]; exact i_mulc (c := 2) (by decide) ((show 0 ≤ v4.toInt ∧ v4.toInt ≤ 7 from by (try simp only [i_lt, i_le, i_eq, Int32.toInt_toInt64, Int32.reduceToInt, Int64.reduceToInt, true_and, and_true, false_and, and_false, false_or, or_false, true_or, or_true, not_true_eq_false, not_false_eq_true, ne_eq, forall_const, true_implies, false_implies, implies_true] at g_v1 g_v4 ex0 hn7 tx1 tx2 g3 c4 tx36 tx37 tx38 tx39 tx40 tx41 ⊢) <;> omega)) (by decide)
        refine lv_iadd hx hb dX12_comesThere_50 ?_
        refine lv_topi (fun x43 ex43 => ?_)
        have tx43 : x43.toInt = x41.toInt + x42.toInt := by rw [ex43]; exact i_add (by (try simp only [i_lt, i_le, i_eq, Int32.toInt_toInt64, Int32.reduceToInt, Int64.reduceToInt, true_and, and_true, false_and, and_false, false_or, or_false, true_or, or_true, not_true_eq_false, not_false_eq_true, ne_eq, forall_const, true_implies, false_implies, implies_true] at g_v1 g_v4 ex0 hn7 tx1 tx2 g3 c4 tx36 tx37 tx38 tx39 tx40 tx41 tx42 ⊢) <;> omega) (by (try simp only [i_lt, i_le, i_eq, Int32.toInt_toInt64, Int32.reduceToInt, Int64.reduceToInt, true_and, and_true, false_and, and_false, false_or, or_false, true_or, or_true, not_true_eq_false, not_false_eq_true, ne_eq, forall_const, true_implies, false_implies, implies_true] at g_v1 g_v4 ex0 hn7 tx1 tx2 g3 c4 tx36 tx37 tx38 tx39 tx40 tx41 tx42 ⊢) <;> omega)
        refine palI hx hb hK hP m_a14 (cF51 k_a14) 1 rfl (vp_in_iff.mpr (by (try simp only [i_lt, i_le, i_eq, Int32.toInt_toInt64, Int32.reduceToInt, Int64.reduceToInt, true_and, and_true, false_and, and_false, false_or, or_false, true_or, or_true, not_true_eq_false, not_false_eq_true, ne_eq, forall_const, true_implies, false_implies, implies_true] at g_v1 g_v4 ex0 hn7 tx1 tx2 g3 c4 tx36 tx37 tx38 tx39 tx40 tx41 tx42 tx43 ⊢) <;> omega)) dX12_comesThere_51 ?_
        refine lv_topi (fun x44 ex44 => ?_)
        have tx44 : x44.toInt = (u.2.2.1 a14 (x43.toNatClampNeg)).toInt := congrArg Int32.toInt ex44
        refine lv_istore (lv' := [(6, .int x44), (5, .int x40), (0, .ref h0), (1, .int v1), (2, .int v2), (3, .int v3), (4, .int v4)]) hx hb dX12_comesThere_52 hl (by decide) rfl (fun ls hl => ?_)
        refine lv_iload_n hx hb dX12_comesThere_54 rfl (lv_at hl 4 rfl) ?_
        refine lv_iload hx hb dX12_comesThere_55 (lv_at hl 0 rfl) ?_
        refine lv_if_ne (tgt := 65) hx hb dX12_comesThere_57 (by decide) (fun c45 => ?_) (fun c45 => ?_)
        · refine lv_iconst (v := 0) hx hb dX12_comesThere_65 (by decide) ?_
          refine lv_iadd hx hb dX12_comesThere_66 ?_
          refine lv_topi (fun x46 ex46 => ?_)
          refine lv_istore_n (lv' := [(2, .int x46), (6, .int x44), (5, .int x40), (0, .ref h0), (1, .int v1), (3, .int v3), (4, .int v4)]) hx hb dX12_comesThere_67 rfl hl (by decide) rfl (fun ls hl => ?_)
          refine lv_iload_n hx hb dX12_comesThere_68 rfl (lv_at hl 5 rfl) ?_
          refine lv_iload hx hb dX12_comesThere_69 (lv_at hl 1 rfl) ?_
          refine lv_iconst (v := 1) hx hb dX12_comesThere_71 (by decide) ?_
          refine lv_icmp_ne (tgt := 80) hx hb dX12_comesThere_72 (by decide) (fun c47 => ?_) (fun c47 => ?_)
          · refine lv_iload hx hb dX12_comesThere_80 (lv_at hl 1 rfl) ?_
            refine lv_iconst (v := 2) hx hb dX12_comesThere_82 (by decide) ?_
            refine lv_icmp_ne (tgt := 92) hx hb dX12_comesThere_83 (by decide) (fun c48 => ?_) (fun c48 => ?_)
            · refine lv_iconst (v := 0) hx hb dX12_comesThere_92 (by decide) ?_
              refine lv_iadd hx hb dX12_comesThere_93 ?_
              refine lv_topi (fun x49 ex49 => ?_)
              refine lv_istore_n (lv' := [(3, .int x49), (2, .int x46), (6, .int x44), (5, .int x40), (0, .ref h0), (1, .int v1), (4, .int v4)]) hx hb dX12_comesThere_94 rfl hl (by decide) rfl (fun ls hl => ?_)
              obtain ⟨x50, ex50⟩ : ∃ y : Int32, y = v4 + 1 := ⟨_, rfl⟩
              have tx50 : x50.toInt = v4.toInt + 1 := by rw [ex50]; exact i_add (b := 1) (by (try simp only [i_lt, i_le, i_eq, Int32.toInt_toInt64, Int32.reduceToInt, Int64.reduceToInt, true_and, and_true, false_and, and_false, false_or, or_false, true_or, or_true, not_true_eq_false, not_false_eq_true, ne_eq, forall_const, true_implies, false_implies, implies_true] at g_v1 g_v4 ex0 hn7 tx1 tx2 g3 c4 tx36 tx37 tx38 tx39 tx40 tx41 tx42 tx43 tx44 ⊢) <;> omega) (by (try simp only [i_lt, i_le, i_eq, Int32.toInt_toInt64, Int32.reduceToInt, Int64.reduceToInt, true_and, and_true, false_and, and_false, false_or, or_false, true_or, or_true, not_true_eq_false, not_false_eq_true, ne_eq, forall_const, true_implies, false_implies, implies_true] at g_v1 g_v4 ex0 hn7 tx1 tx2 g3 c4 tx36 tx37 tx38 tx39 tx40 tx41 tx42 tx43 tx44 ⊢) <;> omega)
              refine lv_iinc (v := x50) (lv' := [(4, .int x50), (3, .int x49), (2, .int x46), (6, .int x44), (5, .int x40), (0, .ref h0), (1, .int v1)]) hx hb dX12_comesThere_95 hl (k := 6) rfl (by rw [ex50]; rfl) (by decide) rfl (fun ls hl => ?_)
              refine lv_goto (tgt := 7) hx hb dX12_comesThere_98 (by decide) ?_
              exact ih7 ls v1 x46 x49 x50 (by (try simp only [i_lt, i_le, i_eq, Int32.toInt_toInt64, Int32.reduceToInt, Int64.reduceToInt, true_and, and_true, false_and, and_false, false_or, or_false, true_or, or_true, not_true_eq_false, not_false_eq_true, ne_eq, forall_const, true_implies, false_implies, implies_true] at g_v1 g_v4 ex0 hn7 tx1 tx2 g3 c4 tx36 tx37 tx38 tx39 tx40 tx41 tx42 tx43 tx44 tx50 ⊢) <;> omega) (by (try simp only [i_lt, i_le, i_eq, Int32.toInt_toInt64, Int32.reduceToInt, Int64.reduceToInt, true_and, and_true, false_and, and_false, false_or, or_false, true_or, or_true, not_true_eq_false, not_false_eq_true, ne_eq, forall_const, true_implies, false_implies, implies_true] at g_v1 g_v4 ex0 hn7 tx1 tx2 g3 c4 tx36 tx37 tx38 tx39 tx40 tx41 tx42 tx43 tx44 tx50 ⊢) <;> omega) (by (try simp only [i_lt, i_le, i_eq, Int32.toInt_toInt64, Int32.reduceToInt, Int64.reduceToInt, true_and, and_true, false_and, and_false, false_or, or_false, true_or, or_true, not_true_eq_false, not_false_eq_true, ne_eq, forall_const, true_implies, false_implies, implies_true] at g_v1 g_v4 ex0 hn7 tx1 tx2 g3 c4 tx36 tx37 tx38 tx39 tx40 tx41 tx42 tx43 tx44 tx50 ⊢) <;> omega) (by (try simp only [i_lt, i_le, i_eq, Int32.toInt_toInt64, Int32.reduceToInt, Int64.reduceToInt, true_and, and_true, false_and, and_false, false_or, or_false, true_or, or_true, not_true_eq_false, not_false_eq_true, ne_eq, forall_const, true_implies, false_implies, implies_true] at g_v1 g_v4 ex0 hn7 tx1 tx2 g3 c4 tx36 tx37 tx38 tx39 tx40 tx41 tx42 tx43 tx44 tx50 ⊢) <;> omega) (lv_sub hl [5, 6, 2, 1, 0] rfl)
            · refine lv_iload hx hb dX12_comesThere_86 (lv_at hl 2 rfl) ?_
              refine lv_ineg hx hb dX12_comesThere_88 ?_
              refine lv_topi (fun x51 ex51 => ?_)
              refine lv_goto (tgt := 93) hx hb dX12_comesThere_89 (by decide) ?_
              refine lv_iadd hx hb dX12_comesThere_93 ?_
              refine lv_topi (fun x52 ex52 => ?_)
              refine lv_istore_n (lv' := [(3, .int x52), (2, .int x46), (6, .int x44), (5, .int x40), (0, .ref h0), (1, .int v1), (4, .int v4)]) hx hb dX12_comesThere_94 rfl hl (by decide) rfl (fun ls hl => ?_)
              obtain ⟨x53, ex53⟩ : ∃ y : Int32, y = v4 + 1 := ⟨_, rfl⟩
              have tx53 : x53.toInt = v4.toInt + 1 := by rw [ex53]; exact i_add (b := 1) (by (try simp only [i_lt, i_le, i_eq, Int32.toInt_toInt64, Int32.reduceToInt, Int64.reduceToInt, true_and, and_true, false_and, and_false, false_or, or_false, true_or, or_true, not_true_eq_false, not_false_eq_true, ne_eq, forall_const, true_implies, false_implies, implies_true] at g_v1 g_v4 ex0 hn7 tx1 tx2 g3 c4 tx36 tx37 tx38 tx39 tx40 tx41 tx42 tx43 tx44 c48 ⊢) <;> omega) (by (try simp only [i_lt, i_le, i_eq, Int32.toInt_toInt64, Int32.reduceToInt, Int64.reduceToInt, true_and, and_true, false_and, and_false, false_or, or_false, true_or, or_true, not_true_eq_false, not_false_eq_true, ne_eq, forall_const, true_implies, false_implies, implies_true] at g_v1 g_v4 ex0 hn7 tx1 tx2 g3 c4 tx36 tx37 tx38 tx39 tx40 tx41 tx42 tx43 tx44 c48 ⊢) <;> omega)
              refine lv_iinc (v := x53) (lv' := [(4, .int x53), (3, .int x52), (2, .int x46), (6, .int x44), (5, .int x40), (0, .ref h0), (1, .int v1)]) hx hb dX12_comesThere_95 hl (k := 6) rfl (by rw [ex53]; rfl) (by decide) rfl (fun ls hl => ?_)
              refine lv_goto (tgt := 7) hx hb dX12_comesThere_98 (by decide) ?_
              exact ih7 ls v1 x46 x52 x53 (by (try simp only [i_lt, i_le, i_eq, Int32.toInt_toInt64, Int32.reduceToInt, Int64.reduceToInt, true_and, and_true, false_and, and_false, false_or, or_false, true_or, or_true, not_true_eq_false, not_false_eq_true, ne_eq, forall_const, true_implies, false_implies, implies_true] at g_v1 g_v4 ex0 hn7 tx1 tx2 g3 c4 tx36 tx37 tx38 tx39 tx40 tx41 tx42 tx43 tx44 c48 tx53 ⊢) <;> omega) (by (try simp only [i_lt, i_le, i_eq, Int32.toInt_toInt64, Int32.reduceToInt, Int64.reduceToInt, true_and, and_true, false_and, and_false, false_or, or_false, true_or, or_true, not_true_eq_false, not_false_eq_true, ne_eq, forall_const, true_implies, false_implies, implies_true] at g_v1 g_v4 ex0 hn7 tx1 tx2 g3 c4 tx36 tx37 tx38 tx39 tx40 tx41 tx42 tx43 tx44 c48 tx53 ⊢) <;> omega) (by (try simp only [i_lt, i_le, i_eq, Int32.toInt_toInt64, Int32.reduceToInt, Int64.reduceToInt, true_and, and_true, false_and, and_false, false_or, or_false, true_or, or_true, not_true_eq_false, not_false_eq_true, ne_eq, forall_const, true_implies, false_implies, implies_true] at g_v1 g_v4 ex0 hn7 tx1 tx2 g3 c4 tx36 tx37 tx38 tx39 tx40 tx41 tx42 tx43 tx44 c48 tx53 ⊢) <;> omega) (by (try simp only [i_lt, i_le, i_eq, Int32.toInt_toInt64, Int32.reduceToInt, Int64.reduceToInt, true_and, and_true, false_and, and_false, false_or, or_false, true_or, or_true, not_true_eq_false, not_false_eq_true, ne_eq, forall_const, true_implies, false_implies, implies_true] at g_v1 g_v4 ex0 hn7 tx1 tx2 g3 c4 tx36 tx37 tx38 tx39 tx40 tx41 tx42 tx43 tx44 c48 tx53 ⊢) <;> omega) (lv_sub hl [5, 6, 2, 1, 0] rfl)
          · refine lv_iload hx hb dX12_comesThere_75 (lv_at hl 2 rfl) ?_
            refine lv_goto (tgt := 93) hx hb dX12_comesThere_77 (by decide) ?_
            refine lv_iadd hx hb dX12_comesThere_93 ?_
            refine lv_topi (fun x54 ex54 => ?_)
            refine lv_istore_n (lv' := [(3, .int x54), (2, .int x46), (6, .int x44), (5, .int x40), (0, .ref h0), (1, .int v1), (4, .int v4)]) hx hb dX12_comesThere_94 rfl hl (by decide) rfl (fun ls hl => ?_)
            obtain ⟨x55, ex55⟩ : ∃ y : Int32, y = v4 + 1 := ⟨_, rfl⟩
            have tx55 : x55.toInt = v4.toInt + 1 := by rw [ex55]; exact i_add (b := 1) (by (try simp only [i_lt, i_le, i_eq, Int32.toInt_toInt64, Int32.reduceToInt, Int64.reduceToInt, true_and, and_true, false_and, and_false, false_or, or_false, true_or, or_true, not_true_eq_false, not_false_eq_true, ne_eq, forall_const, true_implies, false_implies, implies_true] at g_v1 g_v4 ex0 hn7 tx1 tx2 g3 c4 tx36 tx37 tx38 tx39 tx40 tx41 tx42 tx43 tx44 c47 ⊢) <;> omega) (by (try simp only [i_lt, i_le, i_eq, Int32.toInt_toInt64, Int32.reduceToInt, Int64.reduceToInt, true_and, and_true, false_and, and_false, false_or, or_false, true_or, or_true, not_true_eq_false, not_false_eq_true, ne_eq, forall_const, true_implies, false_implies, implies_true] at g_v1 g_v4 ex0 hn7 tx1 tx2 g3 c4 tx36 tx37 tx38 tx39 tx40 tx41 tx42 tx43 tx44 c47 ⊢) <;> omega)
            refine lv_iinc (v := x55) (lv' := [(4, .int x55), (3, .int x54), (2, .int x46), (6, .int x44), (5, .int x40), (0, .ref h0), (1, .int v1)]) hx hb dX12_comesThere_95 hl (k := 6) rfl (by rw [ex55]; rfl) (by decide) rfl (fun ls hl => ?_)
            refine lv_goto (tgt := 7) hx hb dX12_comesThere_98 (by decide) ?_
            exact ih7 ls v1 x46 x54 x55 (by (try simp only [i_lt, i_le, i_eq, Int32.toInt_toInt64, Int32.reduceToInt, Int64.reduceToInt, true_and, and_true, false_and, and_false, false_or, or_false, true_or, or_true, not_true_eq_false, not_false_eq_true, ne_eq, forall_const, true_implies, false_implies, implies_true] at g_v1 g_v4 ex0 hn7 tx1 tx2 g3 c4 tx36 tx37 tx38 tx39 tx40 tx41 tx42 tx43 tx44 c47 tx55 ⊢) <;> omega) (by (try simp only [i_lt, i_le, i_eq, Int32.toInt_toInt64, Int32.reduceToInt, Int64.reduceToInt, true_and, and_true, false_and, and_false, false_or, or_false, true_or, or_true, not_true_eq_false, not_false_eq_true, ne_eq, forall_const, true_implies, false_implies, implies_true] at g_v1 g_v4 ex0 hn7 tx1 tx2 g3 c4 tx36 tx37 tx38 tx39 tx40 tx41 tx42 tx43 tx44 c47 tx55 ⊢) <;> omega) (by (try simp only [i_lt, i_le, i_eq, Int32.toInt_toInt64, Int32.reduceToInt, Int64.reduceToInt, true_and, and_true, false_and, and_false, false_or, or_false, true_or, or_true, not_true_eq_false, not_false_eq_true, ne_eq, forall_const, true_implies, false_implies, implies_true] at g_v1 g_v4 ex0 hn7 tx1 tx2 g3 c4 tx36 tx37 tx38 tx39 tx40 tx41 tx42 tx43 tx44 c47 tx55 ⊢) <;> omega) (by (try simp only [i_lt, i_le, i_eq, Int32.toInt_toInt64, Int32.reduceToInt, Int64.reduceToInt, true_and, and_true, false_and, and_false, false_or, or_false, true_or, or_true, not_true_eq_false, not_false_eq_true, ne_eq, forall_const, true_implies, false_implies, implies_true] at g_v1 g_v4 ex0 hn7 tx1 tx2 g3 c4 tx36 tx37 tx38 tx39 tx40 tx41 tx42 tx43 tx44 c47 tx55 ⊢) <;> omega) (lv_sub hl [5, 6, 2, 1, 0] rfl)
        · refine lv_iload hx hb dX12_comesThere_60 (lv_at hl 1 rfl) ?_
          refine lv_goto (tgt := 66) hx hb dX12_comesThere_62 (by decide) ?_
          refine lv_iadd hx hb dX12_comesThere_66 ?_
          refine lv_topi (fun x56 ex56 => ?_)
          refine lv_istore_n (lv' := [(2, .int x56), (6, .int x44), (5, .int x40), (0, .ref h0), (1, .int v1), (3, .int v3), (4, .int v4)]) hx hb dX12_comesThere_67 rfl hl (by decide) rfl (fun ls hl => ?_)
          refine lv_iload_n hx hb dX12_comesThere_68 rfl (lv_at hl 5 rfl) ?_
          refine lv_iload hx hb dX12_comesThere_69 (lv_at hl 1 rfl) ?_
          refine lv_iconst (v := 1) hx hb dX12_comesThere_71 (by decide) ?_
          refine lv_icmp_ne (tgt := 80) hx hb dX12_comesThere_72 (by decide) (fun _ => ?_) (fun h => absurd h (by (try simp only [i_lt, i_le, i_eq, Int32.toInt_toInt64, Int32.reduceToInt, Int64.reduceToInt, true_and, and_true, false_and, and_false, false_or, or_false, true_or, or_true, not_true_eq_false, not_false_eq_true, ne_eq, forall_const, true_implies, false_implies, implies_true] at g_v1 g_v4 ex0 hn7 tx1 tx2 g3 c4 tx36 tx37 tx38 tx39 tx40 tx41 tx42 tx43 tx44 c45 ⊢) <;> omega))
          refine lv_iload hx hb dX12_comesThere_80 (lv_at hl 1 rfl) ?_
          refine lv_iconst (v := 2) hx hb dX12_comesThere_82 (by decide) ?_
          refine lv_icmp_ne (tgt := 92) hx hb dX12_comesThere_83 (by decide) (fun _ => ?_) (fun h => absurd h (by (try simp only [i_lt, i_le, i_eq, Int32.toInt_toInt64, Int32.reduceToInt, Int64.reduceToInt, true_and, and_true, false_and, and_false, false_or, or_false, true_or, or_true, not_true_eq_false, not_false_eq_true, ne_eq, forall_const, true_implies, false_implies, implies_true] at g_v1 g_v4 ex0 hn7 tx1 tx2 g3 c4 tx36 tx37 tx38 tx39 tx40 tx41 tx42 tx43 tx44 c45 ⊢) <;> omega))
          refine lv_iconst (v := 0) hx hb dX12_comesThere_92 (by decide) ?_
          refine lv_iadd hx hb dX12_comesThere_93 ?_
          refine lv_topi (fun x57 ex57 => ?_)
          refine lv_istore_n (lv' := [(3, .int x57), (2, .int x56), (6, .int x44), (5, .int x40), (0, .ref h0), (1, .int v1), (4, .int v4)]) hx hb dX12_comesThere_94 rfl hl (by decide) rfl (fun ls hl => ?_)
          obtain ⟨x58, ex58⟩ : ∃ y : Int32, y = v4 + 1 := ⟨_, rfl⟩
          have tx58 : x58.toInt = v4.toInt + 1 := by rw [ex58]; exact i_add (b := 1) (by (try simp only [i_lt, i_le, i_eq, Int32.toInt_toInt64, Int32.reduceToInt, Int64.reduceToInt, true_and, and_true, false_and, and_false, false_or, or_false, true_or, or_true, not_true_eq_false, not_false_eq_true, ne_eq, forall_const, true_implies, false_implies, implies_true] at g_v1 g_v4 ex0 hn7 tx1 tx2 g3 c4 tx36 tx37 tx38 tx39 tx40 tx41 tx42 tx43 tx44 c45 ⊢) <;> omega) (by (try simp only [i_lt, i_le, i_eq, Int32.toInt_toInt64, Int32.reduceToInt, Int64.reduceToInt, true_and, and_true, false_and, and_false, false_or, or_false, true_or, or_true, not_true_eq_false, not_false_eq_true, ne_eq, forall_const, true_implies, false_implies, implies_true] at g_v1 g_v4 ex0 hn7 tx1 tx2 g3 c4 tx36 tx37 tx38 tx39 tx40 tx41 tx42 tx43 tx44 c45 ⊢) <;> omega)
          refine lv_iinc (v := x58) (lv' := [(4, .int x58), (3, .int x57), (2, .int x56), (6, .int x44), (5, .int x40), (0, .ref h0), (1, .int v1)]) hx hb dX12_comesThere_95 hl (k := 6) rfl (by rw [ex58]; rfl) (by decide) rfl (fun ls hl => ?_)
          refine lv_goto (tgt := 7) hx hb dX12_comesThere_98 (by decide) ?_
          exact ih7 ls v1 x56 x57 x58 (by (try simp only [i_lt, i_le, i_eq, Int32.toInt_toInt64, Int32.reduceToInt, Int64.reduceToInt, true_and, and_true, false_and, and_false, false_or, or_false, true_or, or_true, not_true_eq_false, not_false_eq_true, ne_eq, forall_const, true_implies, false_implies, implies_true] at g_v1 g_v4 ex0 hn7 tx1 tx2 g3 c4 tx36 tx37 tx38 tx39 tx40 tx41 tx42 tx43 tx44 c45 tx58 ⊢) <;> omega) (by (try simp only [i_lt, i_le, i_eq, Int32.toInt_toInt64, Int32.reduceToInt, Int64.reduceToInt, true_and, and_true, false_and, and_false, false_or, or_false, true_or, or_true, not_true_eq_false, not_false_eq_true, ne_eq, forall_const, true_implies, false_implies, implies_true] at g_v1 g_v4 ex0 hn7 tx1 tx2 g3 c4 tx36 tx37 tx38 tx39 tx40 tx41 tx42 tx43 tx44 c45 tx58 ⊢) <;> omega) (by (try simp only [i_lt, i_le, i_eq, Int32.toInt_toInt64, Int32.reduceToInt, Int64.reduceToInt, true_and, and_true, false_and, and_false, false_or, or_false, true_or, or_true, not_true_eq_false, not_false_eq_true, ne_eq, forall_const, true_implies, false_implies, implies_true] at g_v1 g_v4 ex0 hn7 tx1 tx2 g3 c4 tx36 tx37 tx38 tx39 tx40 tx41 tx42 tx43 tx44 c45 tx58 ⊢) <;> omega) (by (try simp only [i_lt, i_le, i_eq, Int32.toInt_toInt64, Int32.reduceToInt, Int64.reduceToInt, true_and, and_true, false_and, and_false, false_or, or_false, true_or, or_true, not_true_eq_false, not_false_eq_true, ne_eq, forall_const, true_implies, false_implies, implies_true] at g_v1 g_v4 ex0 hn7 tx1 tx2 g3 c4 tx36 tx37 tx38 tx39 tx40 tx41 tx42 tx43 tx44 c45 tx58 ⊢) <;> omega) (lv_sub hl [5, 6, 2, 1, 0] rfl)
  have hl := lv_entry ([.ref h0, .int p1]) (n := 7) (Nat.le_of_ble_eq_true rfl)
  rw [lg_entry_eq]
  generalize (lg_sl ([.ref h0, .int p1]) ++ List.replicate (7 - (lg_sl ([.ref h0, .int p1])).length) Slot.unset).toArray = ls at hl ⊢
  have hl : lv_has ls 7 [(0, .ref h0), (1, .int p1)] := hl
  refine lv_iconst (v := 0) hx hb dX12_comesThere_0 (by decide) ?_
  refine lv_istore_n (lv' := [(2, .int 0), (0, .ref h0), (1, .int p1)]) hx hb dX12_comesThere_1 rfl hl (by decide) rfl (fun ls hl => ?_)
  refine lv_iconst (v := 0) hx hb dX12_comesThere_2 (by decide) ?_
  refine lv_istore_n (lv' := [(3, .int 0), (2, .int 0), (0, .ref h0), (1, .int p1)]) hx hb dX12_comesThere_3 rfl hl (by decide) rfl (fun ls hl => ?_)
  refine lv_iconst (v := 0) hx hb dX12_comesThere_4 (by decide) ?_
  refine lv_istore (lv' := [(4, .int 0), (3, .int 0), (2, .int 0), (0, .ref h0), (1, .int p1)]) hx hb dX12_comesThere_5 hl (by decide) rfl (fun ls hl => ?_)
  exact B7 _ ls p1 0 0 0 (Nat.le_refl _) (by (try simp only [i_lt, i_le, i_eq, Int32.toInt_toInt64, Int32.reduceToInt, Int64.reduceToInt, true_and, and_true, false_and, and_false, false_or, or_false, true_or, or_true, not_true_eq_false, not_false_eq_true, ne_eq, forall_const, true_implies, false_implies, implies_true] at g_p1 hpre ⊢) <;> omega) (by (try simp only [i_lt, i_le, i_eq, Int32.toInt_toInt64, Int32.reduceToInt, Int64.reduceToInt, true_and, and_true, false_and, and_false, false_or, or_false, true_or, or_true, not_true_eq_false, not_false_eq_true, ne_eq, forall_const, true_implies, false_implies, implies_true] at g_p1 hpre ⊢) <;> omega) (by (try simp only [i_lt, i_le, i_eq, Int32.toInt_toInt64, Int32.reduceToInt, Int64.reduceToInt, true_and, and_true, false_and, and_false, false_or, or_false, true_or, or_true, not_true_eq_false, not_false_eq_true, ne_eq, forall_const, true_implies, false_implies, implies_true] at g_p1 hpre ⊢) <;> omega) (lv_sub hl [3, 4, 2, 1, 0] rfl)
set_option maxHeartbeats 4000000 in
set_option maxRecDepth 100000 in
theorem t_X12_lies (l : Launch) (D : va_G) (k : Nat → ClassId) (u0 : PSt) (hu : WT u0) (h0 : Nat) (m_h0 : h0 ∈ u0.1) (k_h0 : u0.2.1 h0 = 12) (p1 : Int32) (p2 : Int32) (p3 : Int32) (g_p1 : 0 ≤ p1.toInt ∧ p1.toInt ≤ 1000) (g_p2 : 0 ≤ p2.toInt ∧ p2.toInt ≤ 999) (g_p3 : 0 ≤ p3.toInt ∧ p3.toInt ≤ 999) (hpre : (u0.2.2.1 (ar u0 h0 14) 6).toInt + p1.toInt ≤ 2000) (sz : Nat) : Met l yX12_lies wsX12_lies ({ frames := 0, cells := 0, slots := 0, locals := 0 }) (PreM D k sz (PW k u0) [.ref h0, .int p1, .int p2, .int p3]) (va_Qv (fun v => WT v ∧ PX u0 v ∧ KL u0 v ∧ (True)) (WB D (va_A (PW k u0) sz) (PW k)) (va_A (PW k u0) sz)) 0 0 (va_A (PW k u0) sz) := by
  refine Met.ofW (cc := cX12_lies) (maxL := 5) (ret := none) (by decide) rfl ?_
  intro p e s m args below meth c s₁ B hml hv
  obtain ⟨rfl, hsz, hP, hK, hD0, hN⟩ := hv
  have hx := B.exec
  have hb := B.bytes
  have hr := B.returns
  have hts := atoms_spec (ws := wsX12_lies) B.pre
  have hown : s.vm.findClass RX12 = some m.cls := findClass_of_methodNamed B.named
  have hlocks := B.notSynchronized
  have i_X12 : ∀ w ∈ wsX120, w ∈ wsX12_lies := by decide +kernel
  obtain ⟨a14, q0_14, m0_a14, k0_a14⟩ := (hu h0 m_h0).1 14 51 (by rw [k_h0]; rfl)
  have m0_h0 := m_h0
  have k0_h0 := k_h0
  have m_a14 := m0_a14
  have k_a14 := k0_a14
  subst hsz
  have hD := hD0.self (sz := s.heap.size)
  generalize hAe : va_A (PW k u0) s.heap.size = A at hD ⊢
  have hA : ∀ q : Nat, s.heap.size ≤ q → A q := fun q h => by rw [← hAe]; exact Or.inr h
  have hS : va_S A s.heap s.heap [] := va_S.rf
  have hp : PX u0 u0 := PX.rf
  have hkl : KL u0 u0 := KL.rf
  simp only [ar_eq q0_14] at hpre
  have B3 : ∀ (n3 : Nat) (u : PSt) (H : Heap) (locs : List Loc) (ls : Array Slot) (v1 : Int32) (v2 : Int32) (v3 : Int32) (v4 : Int32), WT u → PX u0 u → KL u0 u → va_P D vwCl (PW k u) H → va_D A (PW k u) → va_S A s.heap H locs → (2147483648 - v4.toInt).toNat ≤ n3 → 0 ≤ v1.toInt ∧ v1.toInt ≤ 1000 → 0 ≤ v2.toInt ∧ v2.toInt ≤ 999 → 0 ≤ v3.toInt ∧ v3.toInt ≤ 999 → 0 ≤ v4.toInt ∧ v4.toInt ≤ 1000 → ((u.2.2.1 a14 6).toInt + v1.toInt - v4.toInt ≤ 2000) → (v4.toInt ≤ v1.toInt) → lv_has ls 5 [(0, .ref h0), (1, .int v1), (2, .int v2), (3, .int v3), (4, .int v4)] → W p l e (headSpec wsX12_lies ({ frames := 0, cells := 0, slots := 0, locals := 0 })).room s m ([.ref h0, .int p1, .int p2, .int p3] : List Value).toArray below meth c H locs 0 0 (MQ below (va_Qv (fun v => WT v ∧ PX u0 v ∧ KL u0 v ∧ (True)) (WB D A (PW k)) A) ([.ref h0, .int p1, .int p2, .int p3] : List Value).toArray s 0 0 A) (F0 m 3 ls []) := by
    intro n3
    induction n3 with
    | zero =>
      intro u H locs ls v1 v2 v3 v4 hu hp hkl hP hD hS hn3 g_v1 g_v2 g_v3 g_v4 ex0 ex1 hl
      exact absurd hn3 (by have := Int32.toInt_lt v4; have := Int32.le_toInt v4; omega)
    | succ n3 ih3 =>
      intro u H locs ls v1 v2 v3 v4 hu hp hkl hP hD hS hn3 g_v1 g_v2 g_v3 g_v4 ex0 ex1 hl
      refine lv_iload hx hb dX12_lies_3 (lv_at hl 4 rfl) ?_
      refine lv_iload_n hx hb dX12_lies_5 rfl (lv_at hl 1 rfl) ?_
      refine lv_icmp_ge (tgt := 54) hx hb dX12_lies_6 (by decide) (fun c1 => ?_) (fun c1 => ?_)
      · exact W.vret hx hb hr (fun t ht hW => ⟨⟨u, rfl, ⟨hu, hp, hkl, trivial⟩, by rw [ht]; exact hP, hD⟩, hS.F ht⟩) hS.2.2 dX12_lies_54
      · refine lv_aload_n hx hb dX12_lies_9 rfl (lv_at hl 0 rfl) ?_
        have k_h0 : u.2.1 h0 = 12 := (hp h0 m0_h0).2.1.trans k0_h0
        have m_h0 : h0 ∈ u.1 := (hp h0 m0_h0).1
        have k_a14 : u.2.1 a14 = 51 := (hp a14 m0_a14).2.1.trans k0_a14
        have m_a14 : a14 ∈ u.1 := (hp a14 m0_a14).1
        refine pget (ci := 12) (v := va_rf (u.2.2.2.2 h0 14)) (C := RX12) (T := TX12) (N := 34) hx hb hts i_X12 hown hK hP m_h0 (cF12 k_h0) rfl 14 (by decide) (hts (.fieldLink RX12 34 "BellowsRowModel" "fresh" "[I") (by decide +kernel)) (fun _ h9 => h9) rfl dX12_lies_10 ?_
        refine W.eq (g2 := F0 m 13 ls [.ref a14]) (by rw [(((hp h0 m0_h0).2.2.2.2.2.1 k0_h0 14).trans q0_14)]; rfl) ?_
        refine lv_sipush (v := 482) hx hb dX12_lies_13 (by decide) ?_
        refine lv_aload_n hx hb dX12_lies_16 rfl (lv_at hl 0 rfl) ?_
        refine pget (ci := 12) (v := va_rf (u.2.2.2.2 h0 14)) (C := RX12) (T := TX12) (N := 34) hx hb hts i_X12 hown hK hP m_h0 (cF12 k_h0) rfl 14 (by decide) (hts (.fieldLink RX12 34 "BellowsRowModel" "fresh" "[I") (by decide +kernel)) (fun _ h9 => h9) rfl dX12_lies_17 ?_
        refine W.eq (g2 := F0 m 20 ls [.ref a14, .int 482, .ref a14]) (by rw [(((hp h0 m0_h0).2.2.2.2.2.1 k0_h0 14).trans q0_14)]; rfl) ?_
        refine lv_bipush (v := 6) hx hb dX12_lies_20 (by decide) ?_
        refine palI hx hb hK hP m_a14 (cF51 k_a14) 1 rfl (vp_in_iff.mpr (by decide)) dX12_lies_22 ?_
        refine lv_topi (fun x2 ex2 => ?_)
        have tx2 : x2.toInt = (u.2.2.1 a14 6).toInt := congrArg Int32.toInt ex2
        have g3 : 0 ≤ x2.toInt ∧ x2.toInt ≤ 2000 := by have g : okI (u.2.1 a14) (6) (u.2.2.1 a14 (6)) := (hu a14 m_a14).2.2.2 (6); rw [k_a14, ← (show x2 = u.2.2.1 a14 (6) from ex2)] at g; have g : okW (6) x2 := g; unfold okW at g; (try simp only [i_lt, i_le, i_eq, Int32.toInt_toInt64, Int32.reduceToInt, Int64.reduceToInt, true_and, and_true, false_and, and_false, false_or, or_false, true_or, or_true, not_true_eq_false, not_false_eq_true, ne_eq, forall_const, true_implies, false_implies, implies_true] at g_v1 g_v2 g_v3 g_v4 ex0 ex1 hn3 c1 tx2 g ⊢) <;> omega
        refine lv_iadd hx hb dX12_lies_23 ?_
        refine lv_topi (fun x4 ex4 => ?_)
        have tx4 : x4.toInt = (482 : Int32).toInt + x2.toInt := by rw [ex4]; exact i_add (by (try simp only [i_lt, i_le, i_eq, Int32.toInt_toInt64, Int32.reduceToInt, Int64.reduceToInt, true_and, and_true, false_and, and_false, false_or, or_false, true_or, or_true, not_true_eq_false, not_false_eq_true, ne_eq, forall_const, true_implies, false_implies, implies_true] at g_v1 g_v2 g_v3 g_v4 ex0 ex1 hn3 c1 tx2 g3 ⊢) <;> omega) (by (try simp only [i_lt, i_le, i_eq, Int32.toInt_toInt64, Int32.reduceToInt, Int64.reduceToInt, true_and, and_true, false_and, and_false, false_or, or_false, true_or, or_true, not_true_eq_false, not_false_eq_true, ne_eq, forall_const, true_implies, false_implies, implies_true] at g_v1 g_v2 g_v3 g_v4 ex0 ex1 hn3 c1 tx2 g3 ⊢) <;> omega)
        refine lv_iload hx hb dX12_lies_24 (lv_at hl 4 rfl) ?_
        refine lv_iconst (v := 2) hx hb dX12_lies_26 (by decide) ?_
        refine lv_irem hx hb dX12_lies_27 (by decide) ?_
        refine lv_topi (fun x5 ex5 => ?_)
        have tx5 : x5.toInt = v4.toInt % 2 := by rw [ex5]; exact i_rem (d := 2) (by (try simp only [i_lt, i_le, i_eq, Int32.toInt_toInt64, Int32.reduceToInt, Int64.reduceToInt, true_and, and_true, false_and, and_false, false_or, or_false, true_or, or_true, not_true_eq_false, not_false_eq_true, ne_eq, forall_const, true_implies, false_implies, implies_true] at g_v1 g_v2 g_v3 g_v4 ex0 ex1 hn3 c1 tx2 g3 tx4 ⊢) <;> omega) (by decide) (by decide)
        refine lv_if_ne (tgt := 35) hx hb dX12_lies_28 (by decide) (fun c6 => ?_) (fun c6 => ?_)
        · refine lv_iload_n hx hb dX12_lies_35 rfl (lv_at hl 3 rfl) ?_
          refine pasI (u' := pSI u a14 (x4.toNatClampNeg) v3) hx hb hK hP hD hS m_a14 (cF51 k_a14) 1 rfl (vp_in_iff.mpr (by (try simp only [i_lt, i_le, i_eq, Int32.toInt_toInt64, Int32.reduceToInt, Int64.reduceToInt, true_and, and_true, false_and, and_false, false_or, or_false, true_or, or_true, not_true_eq_false, not_false_eq_true, ne_eq, forall_const, true_implies, false_implies, implies_true] at g_v1 g_v2 g_v3 g_v4 ex0 ex1 hn3 c1 tx2 g3 tx4 tx5 c6 ⊢) <;> omega)) rfl (sF51 k_a14 _ _) dX12_lies_36 (fun H locs hP hD hS => ?_)
          have hu := WT.setI (a := a14) (s := (x4.toNatClampNeg)) (v := v3) hu (by rw [k_a14]; exact (show okW (x4.toNatClampNeg) v3 from by unfold okW; have z := cl_int (x := x4) (by (try simp only [i_lt, i_le, i_eq, Int32.toInt_toInt64, Int32.reduceToInt, Int64.reduceToInt, true_and, and_true, false_and, and_false, false_or, or_false, true_or, or_true, not_true_eq_false, not_false_eq_true, ne_eq, forall_const, true_implies, false_implies, implies_true] at g_v1 g_v2 g_v3 g_v4 ex0 ex1 hn3 c1 tx2 g3 tx4 tx5 c6 ⊢) <;> omega); (try simp only [i_lt, i_le, i_eq, Int32.toInt_toInt64, Int32.reduceToInt, Int64.reduceToInt, true_and, and_true, false_and, and_false, false_or, or_false, true_or, or_true, not_true_eq_false, not_false_eq_true, ne_eq, forall_const, true_implies, false_implies, implies_true] at g_v1 g_v2 g_v3 g_v4 ex0 ex1 hn3 c1 tx2 g3 tx4 tx5 c6 z ⊢) <;> omega))
          have hkl := KL.setF (a := a14) (s := (x4.toNatClampNeg)) (v := v3) hkl (by have z := cl_int (x := x4) (by (try simp only [i_lt, i_le, i_eq, Int32.toInt_toInt64, Int32.reduceToInt, Int64.reduceToInt, true_and, and_true, false_and, and_false, false_or, or_false, true_or, or_true, not_true_eq_false, not_false_eq_true, ne_eq, forall_const, true_implies, false_implies, implies_true] at g_v1 g_v2 g_v3 g_v4 ex0 ex1 hn3 c1 tx2 g3 tx4 tx5 c6 ⊢) <;> omega); (try simp only [i_lt, i_le, i_eq, Int32.toInt_toInt64, Int32.reduceToInt, Int64.reduceToInt, true_and, and_true, false_and, and_false, false_or, or_false, true_or, or_true, not_true_eq_false, not_false_eq_true, ne_eq, forall_const, true_implies, false_implies, implies_true] at g_v1 g_v2 g_v3 g_v4 ex0 ex1 hn3 c1 tx2 g3 tx4 tx5 c6 z ⊢) <;> omega)
          have hp := PX.setI (a := a14) (s := (x4.toNatClampNeg)) (v := v3) hp (by rw [k_a14]; decide)
          obtain ⟨u7, hu7⟩ : ∃ z, z = pSI u a14 (x4.toNatClampNeg) v3 := ⟨_, rfl⟩
          rw [← hu7] at hP hD hu hp hkl
          have w8 : (u7.2.2.1 a14 6).toInt = (u.2.2.1 a14 6).toInt := by rw [hu7]; exact congrArg Int32.toInt (if_neg (fun q => by have y := q.2; have z := cl_int (x := x4) (by (try simp only [i_lt, i_le, i_eq, Int32.toInt_toInt64, Int32.reduceToInt, Int64.reduceToInt, true_and, and_true, false_and, and_false, false_or, or_false, true_or, or_true, not_true_eq_false, not_false_eq_true, ne_eq, forall_const, true_implies, false_implies, implies_true] at g_v1 g_v2 g_v3 g_v4 ex0 ex1 hn3 c1 tx2 g3 tx4 tx5 c6 ⊢) <;> omega); (try simp only [i_lt, i_le, i_eq, Int32.toInt_toInt64, Int32.reduceToInt, Int64.reduceToInt, true_and, and_true, false_and, and_false, false_or, or_false, true_or, or_true, not_true_eq_false, not_false_eq_true, ne_eq, forall_const, true_implies, false_implies, implies_true] at g_v1 g_v2 g_v3 g_v4 ex0 ex1 hn3 c1 tx2 g3 tx4 tx5 c6 y z ⊢) <;> omega))
          refine lv_aload_n hx hb dX12_lies_37 rfl (lv_at hl 0 rfl) ?_
          have k_h0 : u7.2.1 h0 = 12 := (hp h0 m0_h0).2.1.trans k0_h0
          have m_h0 : h0 ∈ u7.1 := (hp h0 m0_h0).1
          have k_a14 : u7.2.1 a14 = 51 := (hp a14 m0_a14).2.1.trans k0_a14
          have m_a14 : a14 ∈ u7.1 := (hp a14 m0_a14).1
          refine pget (ci := 12) (v := va_rf (u7.2.2.2.2 h0 14)) (C := RX12) (T := TX12) (N := 34) hx hb hts i_X12 hown hK hP m_h0 (cF12 k_h0) rfl 14 (by decide) (hts (.fieldLink RX12 34 "BellowsRowModel" "fresh" "[I") (by decide +kernel)) (fun _ h9 => h9) rfl dX12_lies_38 ?_
          refine W.eq (g2 := F0 m 41 ls [.ref a14]) (by rw [(((hp h0 m0_h0).2.2.2.2.2.1 k0_h0 14).trans q0_14)]; rfl) ?_
          refine lv_bipush (v := 6) hx hb dX12_lies_41 (by decide) ?_
          refine lv_dup2_11 hx hb dX12_lies_43 rfl rfl ?_
          refine palI hx hb hK hP m_a14 (cF51 k_a14) 1 rfl (vp_in_iff.mpr (by decide)) dX12_lies_44 ?_
          refine lv_topi (fun x9 ex9 => ?_)
          have tx9 : x9.toInt = (u7.2.2.1 a14 6).toInt := congrArg Int32.toInt ex9
          have g10 : 0 ≤ x9.toInt ∧ x9.toInt ≤ 2000 := by have g : okI (u7.2.1 a14) (6) (u7.2.2.1 a14 (6)) := (hu a14 m_a14).2.2.2 (6); rw [k_a14, ← (show x9 = u7.2.2.1 a14 (6) from ex9)] at g; have g : okW (6) x9 := g; unfold okW at g; (try simp only [i_lt, i_le, i_eq, Int32.toInt_toInt64, Int32.reduceToInt, Int64.reduceToInt, true_and, and_true, false_and, and_false, false_or, or_false, true_or, or_true, not_true_eq_false, not_false_eq_true, ne_eq, forall_const, true_implies, false_implies, implies_true] at g_v1 g_v2 g_v3 g_v4 ex0 ex1 hn3 c1 tx2 g3 tx4 tx5 c6 w8 tx9 g ⊢) <;> omega
          refine lv_iconst (v := 1) hx hb dX12_lies_45 (by decide) ?_
          refine lv_iadd hx hb dX12_lies_46 ?_
          refine lv_topi (fun x11 ex11 => ?_)
          have tx11 : x11.toInt = x9.toInt + (1 : Int32).toInt := by rw [ex11]; exact i_add (by (try simp only [i_lt, i_le, i_eq, Int32.toInt_toInt64, Int32.reduceToInt, Int64.reduceToInt, true_and, and_true, false_and, and_false, false_or, or_false, true_or, or_true, not_true_eq_false, not_false_eq_true, ne_eq, forall_const, true_implies, false_implies, implies_true] at g_v1 g_v2 g_v3 g_v4 ex0 ex1 hn3 c1 tx2 g3 tx4 tx5 c6 w8 tx9 g10 ⊢) <;> omega) (by (try simp only [i_lt, i_le, i_eq, Int32.toInt_toInt64, Int32.reduceToInt, Int64.reduceToInt, true_and, and_true, false_and, and_false, false_or, or_false, true_or, or_true, not_true_eq_false, not_false_eq_true, ne_eq, forall_const, true_implies, false_implies, implies_true] at g_v1 g_v2 g_v3 g_v4 ex0 ex1 hn3 c1 tx2 g3 tx4 tx5 c6 w8 tx9 g10 ⊢) <;> omega)
          refine pasI (u' := pSI u7 a14 6 x11) hx hb hK hP hD hS m_a14 (cF51 k_a14) 1 rfl (vp_in_iff.mpr (by decide)) rfl (sF51 k_a14 _ _) dX12_lies_47 (fun H locs hP hD hS => ?_)
          have hu := WT.setI (a := a14) (s := 6) (v := x11) hu (by rw [k_a14]; exact (show okW 6 x11 from by unfold okW; (try simp only [i_lt, i_le, i_eq, Int32.toInt_toInt64, Int32.reduceToInt, Int64.reduceToInt, true_and, and_true, false_and, and_false, false_or, or_false, true_or, or_true, not_true_eq_false, not_false_eq_true, ne_eq, forall_const, true_implies, false_implies, implies_true] at g_v1 g_v2 g_v3 g_v4 ex0 ex1 hn3 c1 tx2 g3 tx4 tx5 c6 w8 tx9 g10 tx11 ⊢) <;> omega))
          have hkl := KL.setF (a := a14) (s := 6) (v := x11) hkl (by (try simp only [i_lt, i_le, i_eq, Int32.toInt_toInt64, Int32.reduceToInt, Int64.reduceToInt, true_and, and_true, false_and, and_false, false_or, or_false, true_or, or_true, not_true_eq_false, not_false_eq_true, ne_eq, forall_const, true_implies, false_implies, implies_true] at g_v1 g_v2 g_v3 g_v4 ex0 ex1 hn3 c1 tx2 g3 tx4 tx5 c6 w8 tx9 g10 tx11 ⊢) <;> omega)
          have hp := PX.setI (a := a14) (s := 6) (v := x11) hp (by rw [k_a14]; decide)
          obtain ⟨u12, hu12⟩ : ∃ z, z = pSI u7 a14 6 x11 := ⟨_, rfl⟩
          rw [← hu12] at hP hD hu hp hkl
          have w13 : (u12.2.2.1 a14 6).toInt = x11.toInt := by rw [hu12]; exact congrArg Int32.toInt (if_pos ⟨rfl, rfl⟩)
          obtain ⟨x14, ex14⟩ : ∃ y : Int32, y = v4 + 1 := ⟨_, rfl⟩
          have tx14 : x14.toInt = v4.toInt + 1 := by rw [ex14]; exact i_add (b := 1) (by (try simp only [i_lt, i_le, i_eq, Int32.toInt_toInt64, Int32.reduceToInt, Int64.reduceToInt, true_and, and_true, false_and, and_false, false_or, or_false, true_or, or_true, not_true_eq_false, not_false_eq_true, ne_eq, forall_const, true_implies, false_implies, implies_true] at g_v1 g_v2 g_v3 g_v4 ex0 ex1 hn3 c1 tx2 g3 tx4 tx5 c6 w8 tx9 g10 tx11 w13 ⊢) <;> omega) (by (try simp only [i_lt, i_le, i_eq, Int32.toInt_toInt64, Int32.reduceToInt, Int64.reduceToInt, true_and, and_true, false_and, and_false, false_or, or_false, true_or, or_true, not_true_eq_false, not_false_eq_true, ne_eq, forall_const, true_implies, false_implies, implies_true] at g_v1 g_v2 g_v3 g_v4 ex0 ex1 hn3 c1 tx2 g3 tx4 tx5 c6 w8 tx9 g10 tx11 w13 ⊢) <;> omega)
          refine lv_iinc (v := x14) (lv' := [(4, .int x14), (0, .ref h0), (1, .int v1), (2, .int v2), (3, .int v3)]) hx hb dX12_lies_48 hl (k := 4) rfl (by rw [ex14]; rfl) (by decide) rfl (fun ls hl => ?_)
          refine lv_goto (tgt := 3) hx hb dX12_lies_51 (by decide) ?_
          exact ih3 _ _ _ ls v1 v2 v3 x14 hu hp hkl hP hD hS (by (try simp only [i_lt, i_le, i_eq, Int32.toInt_toInt64, Int32.reduceToInt, Int64.reduceToInt, true_and, and_true, false_and, and_false, false_or, or_false, true_or, or_true, not_true_eq_false, not_false_eq_true, ne_eq, forall_const, true_implies, false_implies, implies_true] at g_v1 g_v2 g_v3 g_v4 ex0 ex1 hn3 c1 tx2 g3 tx4 tx5 c6 w8 tx9 g10 tx11 w13 tx14 ⊢) <;> omega) (by (try simp only [i_lt, i_le, i_eq, Int32.toInt_toInt64, Int32.reduceToInt, Int64.reduceToInt, true_and, and_true, false_and, and_false, false_or, or_false, true_or, or_true, not_true_eq_false, not_false_eq_true, ne_eq, forall_const, true_implies, false_implies, implies_true] at g_v1 g_v2 g_v3 g_v4 ex0 ex1 hn3 c1 tx2 g3 tx4 tx5 c6 w8 tx9 g10 tx11 w13 tx14 ⊢) <;> omega) (by (try simp only [i_lt, i_le, i_eq, Int32.toInt_toInt64, Int32.reduceToInt, Int64.reduceToInt, true_and, and_true, false_and, and_false, false_or, or_false, true_or, or_true, not_true_eq_false, not_false_eq_true, ne_eq, forall_const, true_implies, false_implies, implies_true] at g_v1 g_v2 g_v3 g_v4 ex0 ex1 hn3 c1 tx2 g3 tx4 tx5 c6 w8 tx9 g10 tx11 w13 tx14 ⊢) <;> omega) (by (try simp only [i_lt, i_le, i_eq, Int32.toInt_toInt64, Int32.reduceToInt, Int64.reduceToInt, true_and, and_true, false_and, and_false, false_or, or_false, true_or, or_true, not_true_eq_false, not_false_eq_true, ne_eq, forall_const, true_implies, false_implies, implies_true] at g_v1 g_v2 g_v3 g_v4 ex0 ex1 hn3 c1 tx2 g3 tx4 tx5 c6 w8 tx9 g10 tx11 w13 tx14 ⊢) <;> omega) (by (try simp only [i_lt, i_le, i_eq, Int32.toInt_toInt64, Int32.reduceToInt, Int64.reduceToInt, true_and, and_true, false_and, and_false, false_or, or_false, true_or, or_true, not_true_eq_false, not_false_eq_true, ne_eq, forall_const, true_implies, false_implies, implies_true] at g_v1 g_v2 g_v3 g_v4 ex0 ex1 hn3 c1 tx2 g3 tx4 tx5 c6 w8 tx9 g10 tx11 w13 tx14 ⊢) <;> omega) (by (try simp only [i_lt, i_le, i_eq, Int32.toInt_toInt64, Int32.reduceToInt, Int64.reduceToInt, true_and, and_true, false_and, and_false, false_or, or_false, true_or, or_true, not_true_eq_false, not_false_eq_true, ne_eq, forall_const, true_implies, false_implies, implies_true] at g_v1 g_v2 g_v3 g_v4 ex0 ex1 hn3 c1 tx2 g3 tx4 tx5 c6 w8 tx9 g10 tx11 w13 tx14 ⊢) <;> omega) (by (try simp only [i_lt, i_le, i_eq, Int32.toInt_toInt64, Int32.reduceToInt, Int64.reduceToInt, true_and, and_true, false_and, and_false, false_or, or_false, true_or, or_true, not_true_eq_false, not_false_eq_true, ne_eq, forall_const, true_implies, false_implies, implies_true] at g_v1 g_v2 g_v3 g_v4 ex0 ex1 hn3 c1 tx2 g3 tx4 tx5 c6 w8 tx9 g10 tx11 w13 tx14 ⊢) <;> omega) (lv_sub hl [1, 2, 3, 4, 0] rfl)
        · refine lv_iload_n hx hb dX12_lies_31 rfl (lv_at hl 2 rfl) ?_
          refine lv_goto (tgt := 36) hx hb dX12_lies_32 (by decide) ?_
          refine pasI (u' := pSI u a14 (x4.toNatClampNeg) v2) hx hb hK hP hD hS m_a14 (cF51 k_a14) 1 rfl (vp_in_iff.mpr (by (try simp only [i_lt, i_le, i_eq, Int32.toInt_toInt64, Int32.reduceToInt, Int64.reduceToInt, true_and, and_true, false_and, and_false, false_or, or_false, true_or, or_true, not_true_eq_false, not_false_eq_true, ne_eq, forall_const, true_implies, false_implies, implies_true] at g_v1 g_v2 g_v3 g_v4 ex0 ex1 hn3 c1 tx2 g3 tx4 tx5 c6 ⊢) <;> omega)) rfl (sF51 k_a14 _ _) dX12_lies_36 (fun H locs hP hD hS => ?_)
          have hu := WT.setI (a := a14) (s := (x4.toNatClampNeg)) (v := v2) hu (by rw [k_a14]; exact (show okW (x4.toNatClampNeg) v2 from by unfold okW; have z := cl_int (x := x4) (by (try simp only [i_lt, i_le, i_eq, Int32.toInt_toInt64, Int32.reduceToInt, Int64.reduceToInt, true_and, and_true, false_and, and_false, false_or, or_false, true_or, or_true, not_true_eq_false, not_false_eq_true, ne_eq, forall_const, true_implies, false_implies, implies_true] at g_v1 g_v2 g_v3 g_v4 ex0 ex1 hn3 c1 tx2 g3 tx4 tx5 c6 ⊢) <;> omega); (try simp only [i_lt, i_le, i_eq, Int32.toInt_toInt64, Int32.reduceToInt, Int64.reduceToInt, true_and, and_true, false_and, and_false, false_or, or_false, true_or, or_true, not_true_eq_false, not_false_eq_true, ne_eq, forall_const, true_implies, false_implies, implies_true] at g_v1 g_v2 g_v3 g_v4 ex0 ex1 hn3 c1 tx2 g3 tx4 tx5 c6 z ⊢) <;> omega))
          have hkl := KL.setF (a := a14) (s := (x4.toNatClampNeg)) (v := v2) hkl (by have z := cl_int (x := x4) (by (try simp only [i_lt, i_le, i_eq, Int32.toInt_toInt64, Int32.reduceToInt, Int64.reduceToInt, true_and, and_true, false_and, and_false, false_or, or_false, true_or, or_true, not_true_eq_false, not_false_eq_true, ne_eq, forall_const, true_implies, false_implies, implies_true] at g_v1 g_v2 g_v3 g_v4 ex0 ex1 hn3 c1 tx2 g3 tx4 tx5 c6 ⊢) <;> omega); (try simp only [i_lt, i_le, i_eq, Int32.toInt_toInt64, Int32.reduceToInt, Int64.reduceToInt, true_and, and_true, false_and, and_false, false_or, or_false, true_or, or_true, not_true_eq_false, not_false_eq_true, ne_eq, forall_const, true_implies, false_implies, implies_true] at g_v1 g_v2 g_v3 g_v4 ex0 ex1 hn3 c1 tx2 g3 tx4 tx5 c6 z ⊢) <;> omega)
          have hp := PX.setI (a := a14) (s := (x4.toNatClampNeg)) (v := v2) hp (by rw [k_a14]; decide)
          obtain ⟨u15, hu15⟩ : ∃ z, z = pSI u a14 (x4.toNatClampNeg) v2 := ⟨_, rfl⟩
          rw [← hu15] at hP hD hu hp hkl
          have w16 : (u15.2.2.1 a14 6).toInt = (u.2.2.1 a14 6).toInt := by rw [hu15]; exact congrArg Int32.toInt (if_neg (fun q => by have y := q.2; have z := cl_int (x := x4) (by (try simp only [i_lt, i_le, i_eq, Int32.toInt_toInt64, Int32.reduceToInt, Int64.reduceToInt, true_and, and_true, false_and, and_false, false_or, or_false, true_or, or_true, not_true_eq_false, not_false_eq_true, ne_eq, forall_const, true_implies, false_implies, implies_true] at g_v1 g_v2 g_v3 g_v4 ex0 ex1 hn3 c1 tx2 g3 tx4 tx5 c6 ⊢) <;> omega); (try simp only [i_lt, i_le, i_eq, Int32.toInt_toInt64, Int32.reduceToInt, Int64.reduceToInt, true_and, and_true, false_and, and_false, false_or, or_false, true_or, or_true, not_true_eq_false, not_false_eq_true, ne_eq, forall_const, true_implies, false_implies, implies_true] at g_v1 g_v2 g_v3 g_v4 ex0 ex1 hn3 c1 tx2 g3 tx4 tx5 c6 y z ⊢) <;> omega))
          refine lv_aload_n hx hb dX12_lies_37 rfl (lv_at hl 0 rfl) ?_
          have k_h0 : u15.2.1 h0 = 12 := (hp h0 m0_h0).2.1.trans k0_h0
          have m_h0 : h0 ∈ u15.1 := (hp h0 m0_h0).1
          have k_a14 : u15.2.1 a14 = 51 := (hp a14 m0_a14).2.1.trans k0_a14
          have m_a14 : a14 ∈ u15.1 := (hp a14 m0_a14).1
          refine pget (ci := 12) (v := va_rf (u15.2.2.2.2 h0 14)) (C := RX12) (T := TX12) (N := 34) hx hb hts i_X12 hown hK hP m_h0 (cF12 k_h0) rfl 14 (by decide) (hts (.fieldLink RX12 34 "BellowsRowModel" "fresh" "[I") (by decide +kernel)) (fun _ h9 => h9) rfl dX12_lies_38 ?_
          refine W.eq (g2 := F0 m 41 ls [.ref a14]) (by rw [(((hp h0 m0_h0).2.2.2.2.2.1 k0_h0 14).trans q0_14)]; rfl) ?_
          refine lv_bipush (v := 6) hx hb dX12_lies_41 (by decide) ?_
          refine lv_dup2_11 hx hb dX12_lies_43 rfl rfl ?_
          refine palI hx hb hK hP m_a14 (cF51 k_a14) 1 rfl (vp_in_iff.mpr (by decide)) dX12_lies_44 ?_
          refine lv_topi (fun x17 ex17 => ?_)
          have tx17 : x17.toInt = (u15.2.2.1 a14 6).toInt := congrArg Int32.toInt ex17
          have g18 : 0 ≤ x17.toInt ∧ x17.toInt ≤ 2000 := by have g : okI (u15.2.1 a14) (6) (u15.2.2.1 a14 (6)) := (hu a14 m_a14).2.2.2 (6); rw [k_a14, ← (show x17 = u15.2.2.1 a14 (6) from ex17)] at g; have g : okW (6) x17 := g; unfold okW at g; (try simp only [i_lt, i_le, i_eq, Int32.toInt_toInt64, Int32.reduceToInt, Int64.reduceToInt, true_and, and_true, false_and, and_false, false_or, or_false, true_or, or_true, not_true_eq_false, not_false_eq_true, ne_eq, forall_const, true_implies, false_implies, implies_true] at g_v1 g_v2 g_v3 g_v4 ex0 ex1 hn3 c1 tx2 g3 tx4 tx5 c6 w16 tx17 g ⊢) <;> omega
          refine lv_iconst (v := 1) hx hb dX12_lies_45 (by decide) ?_
          refine lv_iadd hx hb dX12_lies_46 ?_
          refine lv_topi (fun x19 ex19 => ?_)
          have tx19 : x19.toInt = x17.toInt + (1 : Int32).toInt := by rw [ex19]; exact i_add (by (try simp only [i_lt, i_le, i_eq, Int32.toInt_toInt64, Int32.reduceToInt, Int64.reduceToInt, true_and, and_true, false_and, and_false, false_or, or_false, true_or, or_true, not_true_eq_false, not_false_eq_true, ne_eq, forall_const, true_implies, false_implies, implies_true] at g_v1 g_v2 g_v3 g_v4 ex0 ex1 hn3 c1 tx2 g3 tx4 tx5 c6 w16 tx17 g18 ⊢) <;> omega) (by (try simp only [i_lt, i_le, i_eq, Int32.toInt_toInt64, Int32.reduceToInt, Int64.reduceToInt, true_and, and_true, false_and, and_false, false_or, or_false, true_or, or_true, not_true_eq_false, not_false_eq_true, ne_eq, forall_const, true_implies, false_implies, implies_true] at g_v1 g_v2 g_v3 g_v4 ex0 ex1 hn3 c1 tx2 g3 tx4 tx5 c6 w16 tx17 g18 ⊢) <;> omega)
          refine pasI (u' := pSI u15 a14 6 x19) hx hb hK hP hD hS m_a14 (cF51 k_a14) 1 rfl (vp_in_iff.mpr (by decide)) rfl (sF51 k_a14 _ _) dX12_lies_47 (fun H locs hP hD hS => ?_)
          have hu := WT.setI (a := a14) (s := 6) (v := x19) hu (by rw [k_a14]; exact (show okW 6 x19 from by unfold okW; (try simp only [i_lt, i_le, i_eq, Int32.toInt_toInt64, Int32.reduceToInt, Int64.reduceToInt, true_and, and_true, false_and, and_false, false_or, or_false, true_or, or_true, not_true_eq_false, not_false_eq_true, ne_eq, forall_const, true_implies, false_implies, implies_true] at g_v1 g_v2 g_v3 g_v4 ex0 ex1 hn3 c1 tx2 g3 tx4 tx5 c6 w16 tx17 g18 tx19 ⊢) <;> omega))
          have hkl := KL.setF (a := a14) (s := 6) (v := x19) hkl (by (try simp only [i_lt, i_le, i_eq, Int32.toInt_toInt64, Int32.reduceToInt, Int64.reduceToInt, true_and, and_true, false_and, and_false, false_or, or_false, true_or, or_true, not_true_eq_false, not_false_eq_true, ne_eq, forall_const, true_implies, false_implies, implies_true] at g_v1 g_v2 g_v3 g_v4 ex0 ex1 hn3 c1 tx2 g3 tx4 tx5 c6 w16 tx17 g18 tx19 ⊢) <;> omega)
          have hp := PX.setI (a := a14) (s := 6) (v := x19) hp (by rw [k_a14]; decide)
          obtain ⟨u20, hu20⟩ : ∃ z, z = pSI u15 a14 6 x19 := ⟨_, rfl⟩
          rw [← hu20] at hP hD hu hp hkl
          have w21 : (u20.2.2.1 a14 6).toInt = x19.toInt := by rw [hu20]; exact congrArg Int32.toInt (if_pos ⟨rfl, rfl⟩)
          obtain ⟨x22, ex22⟩ : ∃ y : Int32, y = v4 + 1 := ⟨_, rfl⟩
          have tx22 : x22.toInt = v4.toInt + 1 := by rw [ex22]; exact i_add (b := 1) (by (try simp only [i_lt, i_le, i_eq, Int32.toInt_toInt64, Int32.reduceToInt, Int64.reduceToInt, true_and, and_true, false_and, and_false, false_or, or_false, true_or, or_true, not_true_eq_false, not_false_eq_true, ne_eq, forall_const, true_implies, false_implies, implies_true] at g_v1 g_v2 g_v3 g_v4 ex0 ex1 hn3 c1 tx2 g3 tx4 tx5 c6 w16 tx17 g18 tx19 w21 ⊢) <;> omega) (by (try simp only [i_lt, i_le, i_eq, Int32.toInt_toInt64, Int32.reduceToInt, Int64.reduceToInt, true_and, and_true, false_and, and_false, false_or, or_false, true_or, or_true, not_true_eq_false, not_false_eq_true, ne_eq, forall_const, true_implies, false_implies, implies_true] at g_v1 g_v2 g_v3 g_v4 ex0 ex1 hn3 c1 tx2 g3 tx4 tx5 c6 w16 tx17 g18 tx19 w21 ⊢) <;> omega)
          refine lv_iinc (v := x22) (lv' := [(4, .int x22), (0, .ref h0), (1, .int v1), (2, .int v2), (3, .int v3)]) hx hb dX12_lies_48 hl (k := 4) rfl (by rw [ex22]; rfl) (by decide) rfl (fun ls hl => ?_)
          refine lv_goto (tgt := 3) hx hb dX12_lies_51 (by decide) ?_
          exact ih3 _ _ _ ls v1 v2 v3 x22 hu hp hkl hP hD hS (by (try simp only [i_lt, i_le, i_eq, Int32.toInt_toInt64, Int32.reduceToInt, Int64.reduceToInt, true_and, and_true, false_and, and_false, false_or, or_false, true_or, or_true, not_true_eq_false, not_false_eq_true, ne_eq, forall_const, true_implies, false_implies, implies_true] at g_v1 g_v2 g_v3 g_v4 ex0 ex1 hn3 c1 tx2 g3 tx4 tx5 c6 w16 tx17 g18 tx19 w21 tx22 ⊢) <;> omega) (by (try simp only [i_lt, i_le, i_eq, Int32.toInt_toInt64, Int32.reduceToInt, Int64.reduceToInt, true_and, and_true, false_and, and_false, false_or, or_false, true_or, or_true, not_true_eq_false, not_false_eq_true, ne_eq, forall_const, true_implies, false_implies, implies_true] at g_v1 g_v2 g_v3 g_v4 ex0 ex1 hn3 c1 tx2 g3 tx4 tx5 c6 w16 tx17 g18 tx19 w21 tx22 ⊢) <;> omega) (by (try simp only [i_lt, i_le, i_eq, Int32.toInt_toInt64, Int32.reduceToInt, Int64.reduceToInt, true_and, and_true, false_and, and_false, false_or, or_false, true_or, or_true, not_true_eq_false, not_false_eq_true, ne_eq, forall_const, true_implies, false_implies, implies_true] at g_v1 g_v2 g_v3 g_v4 ex0 ex1 hn3 c1 tx2 g3 tx4 tx5 c6 w16 tx17 g18 tx19 w21 tx22 ⊢) <;> omega) (by (try simp only [i_lt, i_le, i_eq, Int32.toInt_toInt64, Int32.reduceToInt, Int64.reduceToInt, true_and, and_true, false_and, and_false, false_or, or_false, true_or, or_true, not_true_eq_false, not_false_eq_true, ne_eq, forall_const, true_implies, false_implies, implies_true] at g_v1 g_v2 g_v3 g_v4 ex0 ex1 hn3 c1 tx2 g3 tx4 tx5 c6 w16 tx17 g18 tx19 w21 tx22 ⊢) <;> omega) (by (try simp only [i_lt, i_le, i_eq, Int32.toInt_toInt64, Int32.reduceToInt, Int64.reduceToInt, true_and, and_true, false_and, and_false, false_or, or_false, true_or, or_true, not_true_eq_false, not_false_eq_true, ne_eq, forall_const, true_implies, false_implies, implies_true] at g_v1 g_v2 g_v3 g_v4 ex0 ex1 hn3 c1 tx2 g3 tx4 tx5 c6 w16 tx17 g18 tx19 w21 tx22 ⊢) <;> omega) (by (try simp only [i_lt, i_le, i_eq, Int32.toInt_toInt64, Int32.reduceToInt, Int64.reduceToInt, true_and, and_true, false_and, and_false, false_or, or_false, true_or, or_true, not_true_eq_false, not_false_eq_true, ne_eq, forall_const, true_implies, false_implies, implies_true] at g_v1 g_v2 g_v3 g_v4 ex0 ex1 hn3 c1 tx2 g3 tx4 tx5 c6 w16 tx17 g18 tx19 w21 tx22 ⊢) <;> omega) (by (try simp only [i_lt, i_le, i_eq, Int32.toInt_toInt64, Int32.reduceToInt, Int64.reduceToInt, true_and, and_true, false_and, and_false, false_or, or_false, true_or, or_true, not_true_eq_false, not_false_eq_true, ne_eq, forall_const, true_implies, false_implies, implies_true] at g_v1 g_v2 g_v3 g_v4 ex0 ex1 hn3 c1 tx2 g3 tx4 tx5 c6 w16 tx17 g18 tx19 w21 tx22 ⊢) <;> omega) (lv_sub hl [1, 2, 3, 4, 0] rfl)
  have hl := lv_entry ([.ref h0, .int p1, .int p2, .int p3]) (n := 5) (Nat.le_of_ble_eq_true rfl)
  rw [lg_entry_eq]
  generalize (lg_sl ([.ref h0, .int p1, .int p2, .int p3]) ++ List.replicate (5 - (lg_sl ([.ref h0, .int p1, .int p2, .int p3])).length) Slot.unset).toArray = ls at hl ⊢
  have hl : lv_has ls 5 [(0, .ref h0), (1, .int p1), (2, .int p2), (3, .int p3)] := hl
  refine lv_iconst (v := 0) hx hb dX12_lies_0 (by decide) ?_
  refine lv_istore (lv' := [(4, .int 0), (0, .ref h0), (1, .int p1), (2, .int p2), (3, .int p3)]) hx hb dX12_lies_1 hl (by decide) rfl (fun ls hl => ?_)
  exact B3 _ _ _ _ ls p1 p2 p3 0 hu hp hkl hP hD hS (Nat.le_refl _) (by (try simp only [i_lt, i_le, i_eq, Int32.toInt_toInt64, Int32.reduceToInt, Int64.reduceToInt, true_and, and_true, false_and, and_false, false_or, or_false, true_or, or_true, not_true_eq_false, not_false_eq_true, ne_eq, forall_const, true_implies, false_implies, implies_true] at g_p1 g_p2 g_p3 hpre ⊢) <;> omega) (by (try simp only [i_lt, i_le, i_eq, Int32.toInt_toInt64, Int32.reduceToInt, Int64.reduceToInt, true_and, and_true, false_and, and_false, false_or, or_false, true_or, or_true, not_true_eq_false, not_false_eq_true, ne_eq, forall_const, true_implies, false_implies, implies_true] at g_p1 g_p2 g_p3 hpre ⊢) <;> omega) (by (try simp only [i_lt, i_le, i_eq, Int32.toInt_toInt64, Int32.reduceToInt, Int64.reduceToInt, true_and, and_true, false_and, and_false, false_or, or_false, true_or, or_true, not_true_eq_false, not_false_eq_true, ne_eq, forall_const, true_implies, false_implies, implies_true] at g_p1 g_p2 g_p3 hpre ⊢) <;> omega) (by (try simp only [i_lt, i_le, i_eq, Int32.toInt_toInt64, Int32.reduceToInt, Int64.reduceToInt, true_and, and_true, false_and, and_false, false_or, or_false, true_or, or_true, not_true_eq_false, not_false_eq_true, ne_eq, forall_const, true_implies, false_implies, implies_true] at g_p1 g_p2 g_p3 hpre ⊢) <;> omega) (by (try simp only [i_lt, i_le, i_eq, Int32.toInt_toInt64, Int32.reduceToInt, Int64.reduceToInt, true_and, and_true, false_and, and_false, false_or, or_false, true_or, or_true, not_true_eq_false, not_false_eq_true, ne_eq, forall_const, true_implies, false_implies, implies_true] at g_p1 g_p2 g_p3 hpre ⊢) <;> omega) (by (try simp only [i_lt, i_le, i_eq, Int32.toInt_toInt64, Int32.reduceToInt, Int64.reduceToInt, true_and, and_true, false_and, and_false, false_or, or_false, true_or, or_true, not_true_eq_false, not_false_eq_true, ne_eq, forall_const, true_implies, false_implies, implies_true] at g_p1 g_p2 g_p3 hpre ⊢) <;> omega) (lv_sub hl [1, 2, 3, 4, 0] rfl)
set_option maxHeartbeats 4000000 in
set_option maxRecDepth 100000 in
theorem t_X12_hoursHere (l : Launch) (D : va_G) (k : Nat → ClassId) (u0 : PSt) (hu : WT u0) (h0 : Nat) (m_h0 : h0 ∈ u0.1) (k_h0 : u0.2.1 h0 = 12) (sz : Nat) : Met l yX12_hoursHere wsX12_hoursHere ({ frames := 3, cells := 0, slots := 0, locals := 69 }) (PreM D k sz (PW k u0) [.ref h0]) (va_Qi (fun r v => WT v ∧ PX u0 v ∧ KF u0 v ∧ (((v.2.2.1 h0 12).toInt = 0 → ((u0.2.2.1 h0 12).toInt = 0 ∧ 1 ≤ r.toInt ∧ r.toInt ≤ 1000 ∧ (u0.2.2.1 (ar u0 h0 14) 6).toInt + r.toInt ≤ 2000)) ∧ 0 ≤ r.toInt ∧ r.toInt ≤ 1000)) (WB D (va_A (PW k u0) sz) (PW k)) (va_A (PW k u0) sz)) 0 0 (va_A (PW k u0) sz) := by
  refine Met.ofW (cc := cX12_hoursHere) (maxL := 1) (ret := (some .int)) (by decide) rfl ?_
  intro p e s m args below meth c s₁ B hml hv
  obtain ⟨rfl, hsz, hP, hK, hD0, hN⟩ := hv
  have hx := B.exec
  have hb := B.bytes
  have hr := B.returns
  have hts := atoms_spec (ws := wsX12_hoursHere) B.pre
  have hown : s.vm.findClass RX12 = some m.cls := findClass_of_methodNamed B.named
  have hlocks := B.notSynchronized
  have i_X12 : ∀ w ∈ wsX120, w ∈ wsX12_hoursHere := by decide +kernel
  obtain ⟨a14, q0_14, m0_a14, k0_a14⟩ := (hu h0 m_h0).1 14 51 (by rw [k_h0]; rfl)
  have m0_h0 := m_h0
  have k0_h0 := k_h0
  have m_a14 := m0_a14
  have k_a14 := k0_a14
  subst hsz
  have hD := hD0.self (sz := s.heap.size)
  generalize hAe : va_A (PW k u0) s.heap.size = A at hD ⊢
  have hA : ∀ q : Nat, s.heap.size ≤ q → A q := fun q h => by rw [← hAe]; exact Or.inr h
  have hS : va_S A s.heap s.heap [] := va_S.rf
  have hp : PX u0 u0 := PX.rf
  have hkf : KF u0 u0 := KF.rf
  have hl := lv_entry ([.ref h0]) (n := 1) (Nat.le_of_ble_eq_true rfl)
  rw [lg_entry_eq]
  generalize (lg_sl ([.ref h0]) ++ List.replicate (1 - (lg_sl ([.ref h0])).length) Slot.unset).toArray = ls at hl ⊢
  have hl : lv_has ls 1 [(0, .ref h0)] := hl
  refine lv_aload_n hx hb dX12_hoursHere_0 rfl (lv_at hl 0 rfl) ?_
  refine rvi (C := RX12) (As := []) (rest := []) ⟨hx, hb, hml, hown, hts⟩ (t_X12_good l D k u0 hu h0 m_h0 k_h0 ) (cwV 0 hts gX12_hoursHere_X12_good rfl rfl rfl (by decide +kernel) ⟨Nat.le_of_ble_eq_true rfl, Nat.le_of_ble_eq_true rfl⟩) hP hK (precv hK hP m_h0 (cF12 k_h0) rfl) rfl hl.1 rfl (Nat.le_of_ble_eq_true rfl) dX12_hoursHere_1 ⟨Nat.le_of_ble_eq_true rfl, Nat.le_of_ble_eq_true rfl⟩ (fun r1 hr1 => ?_)
  refine lv_if_eq (tgt := 53) hx hb dX12_hoursHere_4 (by decide) (fun c2 => ?_) (fun c2 => ?_)
  · have eb3 : r1.toInt = 0 := by rcases hr1 with ⟨q, -⟩ | ⟨q, -⟩; exact q; (exact absurd (c2) (fun w => by rw [w] at q; exact absurd q (by decide)))
    have fb3 : (u0.2.2.1 h0 12).toInt ≠ 0 := by rcases hr1 with ⟨q, r⟩ | ⟨q, r⟩; exact r; exact absurd q (by omega)
    clear hr1
    refine lv_aload_n hx hb dX12_hoursHere_53 rfl (lv_at hl 0 rfl) ?_
    refine lv_iconst (v := 1) hx hb dX12_hoursHere_54 (by decide) ?_
    refine lv_sipush (v := 1000) hx hb dX12_hoursHere_55 (by decide) ?_
    refine wiV (C := RX12) (As := [.int 1, .int 1000]) (rest := []) ⟨hx, hb, hml, hown, hts⟩ (fun sz => t_X12_number l D k u0 hu h0 m_h0 k_h0 1 1000 sz) (cwV 2 hts gX12_hoursHere_X12_number rfl rfl rfl (by decide +kernel) ⟨Nat.le_of_ble_eq_true rfl, Nat.le_of_ble_eq_true rfl⟩) hP hK hD hN hS hA (precv hK hP m_h0 (cF12 k_h0) rfl) rfl hl.1 rfl (Nat.le_of_ble_eq_true rfl) dX12_hoursHere_58 ⟨Nat.le_of_ble_eq_true rfl, Nat.le_of_ble_eq_true rfl⟩ (fun r4 u5 H locs hqu5 hP hD hS => ?_)
    obtain ⟨hu, hxu5, z6, hr4⟩ := hqu5
    have hkf := KF.trans hkf hp z6
    have hp := PX.trans hp hxu5
    have w7 : (u5.2.2.1 a14 6).toInt = (u0.2.2.1 a14 6).toInt := congrArg Int32.toInt (z6 a14 m_a14 k_a14 6)
    have gr4 : 0 ≤ r4.toInt ∧ r4.toInt ≤ 1000 := by (try simp only [i_lt, i_le, i_eq, Int32.toInt_toInt64, Int32.reduceToInt, Int64.reduceToInt, true_and, and_true, false_and, and_false, false_or, or_false, true_or, or_true, not_true_eq_false, not_false_eq_true, ne_eq, forall_const, true_implies, false_implies, implies_true] at eb3 fb3 w7 hr4 ⊢) <;> omega
    exact W.iret (v := r4) hx hb hr (fun t ht hW => ⟨⟨r4, u5, rfl, ⟨hu, hp, hkf, (show ((u5.2.2.1 h0 12).toInt = 0 → ((u0.2.2.1 h0 12).toInt = 0 ∧ 1 ≤ r4.toInt ∧ r4.toInt ≤ 1000 ∧ (u0.2.2.1 (ar u0 h0 14) 6).toInt + r4.toInt ≤ 2000)) ∧ 0 ≤ r4.toInt ∧ r4.toInt ≤ 1000 from by (simp only [ar_eq q0_14]); (try simp only [i_lt, i_le, i_eq, Int32.toInt_toInt64, Int32.reduceToInt, Int64.reduceToInt, true_and, and_true, false_and, and_false, false_or, or_false, true_or, or_true, not_true_eq_false, not_false_eq_true, ne_eq, forall_const, true_implies, false_implies, implies_true] at eb3 fb3 w7 hr4 gr4 ⊢) <;> omega)⟩, by rw [ht]; exact hP, hD⟩, hS.F ht⟩) hS.2.2 dX12_hoursHere_61
  · have eb8 : r1.toInt = 1 := by rcases hr1 with ⟨q, -⟩ | ⟨q, -⟩; exact absurd (i_eq.mpr q) c2; exact q
    have fb8 : (u0.2.2.1 h0 12).toInt = 0 := by rcases hr1 with ⟨q, r⟩ | ⟨q, r⟩; exact absurd q (by omega); exact r
    clear hr1
    refine lv_aload_n hx hb dX12_hoursHere_7 rfl (lv_at hl 0 rfl) ?_
    refine pget (ci := 12) (v := .int (u0.2.2.1 h0 10)) (C := RX12) (T := TX12) (N := 34) hx hb hts i_X12 hown hK hP m_h0 (cF12 k_h0) rfl 10 (by decide) (hts (.fieldLink RX12 98 "BellowsRowModel" "token" "I") (by decide +kernel)) (fun _ h9 => h9) rfl dX12_hoursHere_8 ?_
    refine lv_iconst (v := 2) hx hb dX12_hoursHere_11 (by decide) ?_
    refine lv_icmp_ne (tgt := 53) hx hb dX12_hoursHere_12 (by decide) (fun c9 => ?_) (fun c9 => ?_)
    · refine lv_aload_n hx hb dX12_hoursHere_53 rfl (lv_at hl 0 rfl) ?_
      refine lv_iconst (v := 1) hx hb dX12_hoursHere_54 (by decide) ?_
      refine lv_sipush (v := 1000) hx hb dX12_hoursHere_55 (by decide) ?_
      refine wiV (C := RX12) (As := [.int 1, .int 1000]) (rest := []) ⟨hx, hb, hml, hown, hts⟩ (fun sz => t_X12_number l D k u0 hu h0 m_h0 k_h0 1 1000 sz) (cwV 2 hts gX12_hoursHere_X12_number rfl rfl rfl (by decide +kernel) ⟨Nat.le_of_ble_eq_true rfl, Nat.le_of_ble_eq_true rfl⟩) hP hK hD hN hS hA (precv hK hP m_h0 (cF12 k_h0) rfl) rfl hl.1 rfl (Nat.le_of_ble_eq_true rfl) dX12_hoursHere_58 ⟨Nat.le_of_ble_eq_true rfl, Nat.le_of_ble_eq_true rfl⟩ (fun r10 u11 H locs hqu11 hP hD hS => ?_)
      obtain ⟨hu, hxu11, z12, hr10⟩ := hqu11
      have hkf := KF.trans hkf hp z12
      have hp := PX.trans hp hxu11
      have w13 : (u11.2.2.1 a14 6).toInt = (u0.2.2.1 a14 6).toInt := congrArg Int32.toInt (z12 a14 m_a14 k_a14 6)
      have gr10 : 0 ≤ r10.toInt ∧ r10.toInt ≤ 1000 := by (try simp only [i_lt, i_le, i_eq, Int32.toInt_toInt64, Int32.reduceToInt, Int64.reduceToInt, true_and, and_true, false_and, and_false, false_or, or_false, true_or, or_true, not_true_eq_false, not_false_eq_true, ne_eq, forall_const, true_implies, false_implies, implies_true] at eb8 fb8 c9 w13 hr10 ⊢) <;> omega
      exact W.iret (v := r10) hx hb hr (fun t ht hW => ⟨⟨r10, u11, rfl, ⟨hu, hp, hkf, (show ((u11.2.2.1 h0 12).toInt = 0 → ((u0.2.2.1 h0 12).toInt = 0 ∧ 1 ≤ r10.toInt ∧ r10.toInt ≤ 1000 ∧ (u0.2.2.1 (ar u0 h0 14) 6).toInt + r10.toInt ≤ 2000)) ∧ 0 ≤ r10.toInt ∧ r10.toInt ≤ 1000 from by (simp only [ar_eq q0_14]); (try simp only [i_lt, i_le, i_eq, Int32.toInt_toInt64, Int32.reduceToInt, Int64.reduceToInt, true_and, and_true, false_and, and_false, false_or, or_false, true_or, or_true, not_true_eq_false, not_false_eq_true, ne_eq, forall_const, true_implies, false_implies, implies_true] at eb8 fb8 c9 w13 hr10 gr10 ⊢) <;> omega)⟩, by rw [ht]; exact hP, hD⟩, hS.F ht⟩) hS.2.2 dX12_hoursHere_61
    · refine lv_aload_n hx hb dX12_hoursHere_15 rfl (lv_at hl 0 rfl) ?_
      refine pget (ci := 12) (v := .int (u0.2.2.1 h0 11)) (C := RX12) (T := TX12) (N := 34) hx hb hts i_X12 hown hK hP m_h0 (cF12 k_h0) rfl 11 (by decide) (hts (.fieldLink RX12 109 "BellowsRowModel" "value" "I") (by decide +kernel)) (fun _ h9 => h9) rfl dX12_hoursHere_16 ?_
      refine lv_i2l hx hb dX12_hoursHere_19 rfl ?_
      have b14 := Int32.toInt_lt (u0.2.2.1 h0 11)
      have ab14 := Int32.le_toInt (u0.2.2.1 h0 11)
      refine lv_topl (fun x15 ex15 => ?_)
      have tx15 : x15.toInt = (u0.2.2.1 h0 11).toInt := by rw [ex15]; exact Int32.toInt_toInt64 _
      refine lv_lconst (v := 1) hx hb dX12_hoursHere_20 (by decide) ?_
      refine lv_ldc2 (own := RX12) (v := 1000) hx hb hown (hts (.constantLong RX12 215 (1000)) (by decide +kernel)) dX12_hoursHere_21 ?_
      refine psi (As := [.long x15, .long 1, .long 1000]) (rest := []) ⟨hx, hb, hml, hown, hts⟩ (t_X12_in l D k x15 1 1000) (va_cwS 3 hts gX12_hoursHere_X12_in rfl rfl rfl (by decide +kernel) ⟨Nat.le_of_ble_eq_true rfl, Nat.le_of_ble_eq_true rfl⟩) hK rfl hl.1 rfl (Nat.le_of_ble_eq_true rfl) dX12_hoursHere_24 ⟨Nat.le_of_ble_eq_true rfl, Nat.le_of_ble_eq_true rfl⟩ (fun r16 hr16 => ?_)
      refine lv_if_eq (tgt := 53) hx hb dX12_hoursHere_27 (by decide) (fun c17 => ?_) (fun c17 => ?_)
      · have eb18 : r16.toInt = 0 := by rcases hr16 with ⟨q, -⟩ | ⟨q, -⟩; exact q; (exact absurd (c17) (fun w => by rw [w] at q; exact absurd q (by decide)))
        have fb18 : (x15.toInt < (1 : Int64).toInt ∨ (1000 : Int64).toInt < x15.toInt) := by rcases hr16 with ⟨q, r⟩ | ⟨q, r⟩; exact r; exact absurd q (by omega)
        clear hr16
        refine lv_aload_n hx hb dX12_hoursHere_53 rfl (lv_at hl 0 rfl) ?_
        refine lv_iconst (v := 1) hx hb dX12_hoursHere_54 (by decide) ?_
        refine lv_sipush (v := 1000) hx hb dX12_hoursHere_55 (by decide) ?_
        refine wiV (C := RX12) (As := [.int 1, .int 1000]) (rest := []) ⟨hx, hb, hml, hown, hts⟩ (fun sz => t_X12_number l D k u0 hu h0 m_h0 k_h0 1 1000 sz) (cwV 2 hts gX12_hoursHere_X12_number rfl rfl rfl (by decide +kernel) ⟨Nat.le_of_ble_eq_true rfl, Nat.le_of_ble_eq_true rfl⟩) hP hK hD hN hS hA (precv hK hP m_h0 (cF12 k_h0) rfl) rfl hl.1 rfl (Nat.le_of_ble_eq_true rfl) dX12_hoursHere_58 ⟨Nat.le_of_ble_eq_true rfl, Nat.le_of_ble_eq_true rfl⟩ (fun r19 u20 H locs hqu20 hP hD hS => ?_)
        obtain ⟨hu, hxu20, z21, hr19⟩ := hqu20
        have hkf := KF.trans hkf hp z21
        have hp := PX.trans hp hxu20
        have w22 : (u20.2.2.1 a14 6).toInt = (u0.2.2.1 a14 6).toInt := congrArg Int32.toInt (z21 a14 m_a14 k_a14 6)
        have gr19 : 0 ≤ r19.toInt ∧ r19.toInt ≤ 1000 := by (try simp only [i_lt, i_le, i_eq, Int32.toInt_toInt64, Int32.reduceToInt, Int64.reduceToInt, true_and, and_true, false_and, and_false, false_or, or_false, true_or, or_true, not_true_eq_false, not_false_eq_true, ne_eq, forall_const, true_implies, false_implies, implies_true] at eb8 fb8 c9 b14 ab14 tx15 eb18 fb18 w22 hr19 ⊢) <;> omega
        exact W.iret (v := r19) hx hb hr (fun t ht hW => ⟨⟨r19, u20, rfl, ⟨hu, hp, hkf, (show ((u20.2.2.1 h0 12).toInt = 0 → ((u0.2.2.1 h0 12).toInt = 0 ∧ 1 ≤ r19.toInt ∧ r19.toInt ≤ 1000 ∧ (u0.2.2.1 (ar u0 h0 14) 6).toInt + r19.toInt ≤ 2000)) ∧ 0 ≤ r19.toInt ∧ r19.toInt ≤ 1000 from by (simp only [ar_eq q0_14]); (try simp only [i_lt, i_le, i_eq, Int32.toInt_toInt64, Int32.reduceToInt, Int64.reduceToInt, true_and, and_true, false_and, and_false, false_or, or_false, true_or, or_true, not_true_eq_false, not_false_eq_true, ne_eq, forall_const, true_implies, false_implies, implies_true] at eb8 fb8 c9 b14 ab14 tx15 eb18 fb18 w22 hr19 gr19 ⊢) <;> omega)⟩, by rw [ht]; exact hP, hD⟩, hS.F ht⟩) hS.2.2 dX12_hoursHere_61
      · have eb23 : r16.toInt = 1 := by rcases hr16 with ⟨q, -⟩ | ⟨q, -⟩; exact absurd (i_eq.mpr q) c17; exact q
        have fb23 : (1 : Int64).toInt ≤ x15.toInt ∧ x15.toInt ≤ (1000 : Int64).toInt := by rcases hr16 with ⟨q, r⟩ | ⟨q, r⟩; exact absurd q (by omega); exact r
        clear hr16
        refine lv_aload_n hx hb dX12_hoursHere_30 rfl (lv_at hl 0 rfl) ?_
        refine pget (ci := 12) (v := va_rf (u0.2.2.2.2 h0 14)) (C := RX12) (T := TX12) (N := 34) hx hb hts i_X12 hown hK hP m_h0 (cF12 k_h0) rfl 14 (by decide) (hts (.fieldLink RX12 34 "BellowsRowModel" "fresh" "[I") (by decide +kernel)) (fun _ h9 => h9) rfl dX12_hoursHere_31 ?_
        refine W.eq (g2 := F0 m 34 ls [.ref a14]) (by rw [(((hp h0 m0_h0).2.2.2.2.2.1 k0_h0 14).trans q0_14)]; rfl) ?_
        refine lv_bipush (v := 6) hx hb dX12_hoursHere_34 (by decide) ?_
        refine palI hx hb hK hP m_a14 (cF51 k_a14) 1 rfl (vp_in_iff.mpr (by decide)) dX12_hoursHere_36 ?_
        refine lv_topi (fun x24 ex24 => ?_)
        have tx24 : x24.toInt = (u0.2.2.1 a14 6).toInt := congrArg Int32.toInt ex24
        have g25 : 0 ≤ x24.toInt ∧ x24.toInt ≤ 2000 := by have g : okI (u0.2.1 a14) (6) (u0.2.2.1 a14 (6)) := (hu a14 m_a14).2.2.2 (6); rw [k_a14, ← (show x24 = u0.2.2.1 a14 (6) from ex24)] at g; have g : okW (6) x24 := g; unfold okW at g; (try simp only [i_lt, i_le, i_eq, Int32.toInt_toInt64, Int32.reduceToInt, Int64.reduceToInt, true_and, and_true, false_and, and_false, false_or, or_false, true_or, or_true, not_true_eq_false, not_false_eq_true, ne_eq, forall_const, true_implies, false_implies, implies_true] at eb8 fb8 c9 b14 ab14 tx15 eb23 fb23 tx24 g ⊢) <;> omega
        refine lv_aload_n hx hb dX12_hoursHere_37 rfl (lv_at hl 0 rfl) ?_
        refine pget (ci := 12) (v := .int (u0.2.2.1 h0 11)) (C := RX12) (T := TX12) (N := 34) hx hb hts i_X12 hown hK hP m_h0 (cF12 k_h0) rfl 11 (by decide) (hts (.fieldLink RX12 109 "BellowsRowModel" "value" "I") (by decide +kernel)) (fun _ h9 => h9) rfl dX12_hoursHere_38 ?_
        refine lv_iadd hx hb dX12_hoursHere_41 ?_
        refine lv_topi (fun x26 ex26 => ?_)
        have tx26 : x26.toInt = x24.toInt + (u0.2.2.1 h0 11).toInt := by rw [ex26]; exact i_add (by (try simp only [i_lt, i_le, i_eq, Int32.toInt_toInt64, Int32.reduceToInt, Int64.reduceToInt, true_and, and_true, false_and, and_false, false_or, or_false, true_or, or_true, not_true_eq_false, not_false_eq_true, ne_eq, forall_const, true_implies, false_implies, implies_true] at eb8 fb8 c9 b14 ab14 tx15 eb23 fb23 tx24 g25 ⊢) <;> omega) (by (try simp only [i_lt, i_le, i_eq, Int32.toInt_toInt64, Int32.reduceToInt, Int64.reduceToInt, true_and, and_true, false_and, and_false, false_or, or_false, true_or, or_true, not_true_eq_false, not_false_eq_true, ne_eq, forall_const, true_implies, false_implies, implies_true] at eb8 fb8 c9 b14 ab14 tx15 eb23 fb23 tx24 g25 ⊢) <;> omega)
        refine lv_sipush (v := 2000) hx hb dX12_hoursHere_42 (by decide) ?_
        refine lv_icmp_le (tgt := 53) hx hb dX12_hoursHere_45 (by decide) (fun c27 => ?_) (fun c27 => ?_)
        · refine lv_aload_n hx hb dX12_hoursHere_53 rfl (lv_at hl 0 rfl) ?_
          refine lv_iconst (v := 1) hx hb dX12_hoursHere_54 (by decide) ?_
          refine lv_sipush (v := 1000) hx hb dX12_hoursHere_55 (by decide) ?_
          refine wiV (C := RX12) (As := [.int 1, .int 1000]) (rest := []) ⟨hx, hb, hml, hown, hts⟩ (fun sz => t_X12_number l D k u0 hu h0 m_h0 k_h0 1 1000 sz) (cwV 2 hts gX12_hoursHere_X12_number rfl rfl rfl (by decide +kernel) ⟨Nat.le_of_ble_eq_true rfl, Nat.le_of_ble_eq_true rfl⟩) hP hK hD hN hS hA (precv hK hP m_h0 (cF12 k_h0) rfl) rfl hl.1 rfl (Nat.le_of_ble_eq_true rfl) dX12_hoursHere_58 ⟨Nat.le_of_ble_eq_true rfl, Nat.le_of_ble_eq_true rfl⟩ (fun r28 u29 H locs hqu29 hP hD hS => ?_)
          obtain ⟨hu, hxu29, z30, hr28⟩ := hqu29
          have hkf := KF.trans hkf hp z30
          have hp := PX.trans hp hxu29
          have w31 : (u29.2.2.1 a14 6).toInt = (u0.2.2.1 a14 6).toInt := congrArg Int32.toInt (z30 a14 m_a14 k_a14 6)
          have gr28 : 0 ≤ r28.toInt ∧ r28.toInt ≤ 1000 := by (try simp only [i_lt, i_le, i_eq, Int32.toInt_toInt64, Int32.reduceToInt, Int64.reduceToInt, true_and, and_true, false_and, and_false, false_or, or_false, true_or, or_true, not_true_eq_false, not_false_eq_true, ne_eq, forall_const, true_implies, false_implies, implies_true] at eb8 fb8 c9 b14 ab14 tx15 eb23 fb23 tx24 g25 tx26 c27 w31 hr28 ⊢) <;> omega
          exact W.iret (v := r28) hx hb hr (fun t ht hW => ⟨⟨r28, u29, rfl, ⟨hu, hp, hkf, (show ((u29.2.2.1 h0 12).toInt = 0 → ((u0.2.2.1 h0 12).toInt = 0 ∧ 1 ≤ r28.toInt ∧ r28.toInt ≤ 1000 ∧ (u0.2.2.1 (ar u0 h0 14) 6).toInt + r28.toInt ≤ 2000)) ∧ 0 ≤ r28.toInt ∧ r28.toInt ≤ 1000 from by (simp only [ar_eq q0_14]); (try simp only [i_lt, i_le, i_eq, Int32.toInt_toInt64, Int32.reduceToInt, Int64.reduceToInt, true_and, and_true, false_and, and_false, false_or, or_false, true_or, or_true, not_true_eq_false, not_false_eq_true, ne_eq, forall_const, true_implies, false_implies, implies_true] at eb8 fb8 c9 b14 ab14 tx15 eb23 fb23 tx24 g25 tx26 c27 w31 hr28 gr28 ⊢) <;> omega)⟩, by rw [ht]; exact hP, hD⟩, hS.F ht⟩) hS.2.2 dX12_hoursHere_61
        · refine lv_aload_n hx hb dX12_hoursHere_48 rfl (lv_at hl 0 rfl) ?_
          refine lv_iconst (v := 2) hx hb dX12_hoursHere_49 (by decide) ?_
          refine wvV (C := RX12) (As := [.int 2]) (rest := []) ⟨hx, hb, hml, hown, hts⟩ (fun sz => t_X12_errs l D k u0 hu h0 m_h0 k_h0 2 (by decide) sz) (cwV 1 hts gX12_hoursHere_X12_errs rfl rfl rfl (by decide +kernel) ⟨Nat.le_of_ble_eq_true rfl, Nat.le_of_ble_eq_true rfl⟩) hP hK hD hN hS hA (precv hK hP m_h0 (cF12 k_h0) rfl) rfl hl.1 rfl (Nat.le_of_ble_eq_true rfl) dX12_hoursHere_50 ⟨Nat.le_of_ble_eq_true rfl, Nat.le_of_ble_eq_true rfl⟩ (fun u33 H locs hqu33 hP hD hS => ?_)
          obtain ⟨hu, hxu33, z34, hr32⟩ := hqu33
          have hkf := KF.trans hkf hp z34
          have hp := PX.trans hp hxu33
          have w35 : (u33.2.2.1 a14 6).toInt = (u0.2.2.1 a14 6).toInt := congrArg Int32.toInt (z34 a14 m_a14 k_a14 6)
          refine lv_aload_n hx hb dX12_hoursHere_53 rfl (lv_at hl 0 rfl) ?_
          refine lv_iconst (v := 1) hx hb dX12_hoursHere_54 (by decide) ?_
          refine lv_sipush (v := 1000) hx hb dX12_hoursHere_55 (by decide) ?_
          have k_h0 : u33.2.1 h0 = 12 := (hp h0 m0_h0).2.1.trans k0_h0
          have m_h0 : h0 ∈ u33.1 := (hp h0 m0_h0).1
          have k_a14 : u33.2.1 a14 = 51 := (hp a14 m0_a14).2.1.trans k0_a14
          have m_a14 : a14 ∈ u33.1 := (hp a14 m0_a14).1
          refine wiV (C := RX12) (As := [.int 1, .int 1000]) (rest := []) ⟨hx, hb, hml, hown, hts⟩ (fun sz => t_X12_number l D k u33 hu h0 m_h0 k_h0 1 1000 sz) (cwV 2 hts gX12_hoursHere_X12_number rfl rfl rfl (by decide +kernel) ⟨Nat.le_of_ble_eq_true rfl, Nat.le_of_ble_eq_true rfl⟩) hP hK hD hN hS hA (precv hK hP m_h0 (cF12 k_h0) rfl) rfl hl.1 rfl (Nat.le_of_ble_eq_true rfl) dX12_hoursHere_58 ⟨Nat.le_of_ble_eq_true rfl, Nat.le_of_ble_eq_true rfl⟩ (fun r36 u37 H locs hqu37 hP hD hS => ?_)
          obtain ⟨hu, hxu37, z38, hr36⟩ := hqu37
          have hkf := KF.trans hkf hp z38
          have hp := PX.trans hp hxu37
          have w39 : (u37.2.2.1 a14 6).toInt = (u33.2.2.1 a14 6).toInt := congrArg Int32.toInt (z38 a14 m_a14 k_a14 6)
          have gr36 : 0 ≤ r36.toInt ∧ r36.toInt ≤ 1000 := by (try simp only [i_lt, i_le, i_eq, Int32.toInt_toInt64, Int32.reduceToInt, Int64.reduceToInt, true_and, and_true, false_and, and_false, false_or, or_false, true_or, or_true, not_true_eq_false, not_false_eq_true, ne_eq, forall_const, true_implies, false_implies, implies_true] at eb8 fb8 c9 b14 ab14 tx15 eb23 fb23 tx24 g25 tx26 c27 w35 hr32 w39 hr36 ⊢) <;> omega
          exact W.iret (v := r36) hx hb hr (fun t ht hW => ⟨⟨r36, u37, rfl, ⟨hu, hp, hkf, (show ((u37.2.2.1 h0 12).toInt = 0 → ((u0.2.2.1 h0 12).toInt = 0 ∧ 1 ≤ r36.toInt ∧ r36.toInt ≤ 1000 ∧ (u0.2.2.1 (ar u0 h0 14) 6).toInt + r36.toInt ≤ 2000)) ∧ 0 ≤ r36.toInt ∧ r36.toInt ≤ 1000 from by (simp only [ar_eq q0_14]); (try simp only [i_lt, i_le, i_eq, Int32.toInt_toInt64, Int32.reduceToInt, Int64.reduceToInt, true_and, and_true, false_and, and_false, false_or, or_false, true_or, or_true, not_true_eq_false, not_false_eq_true, ne_eq, forall_const, true_implies, false_implies, implies_true] at eb8 fb8 c9 b14 ab14 tx15 eb23 fb23 tx24 g25 tx26 c27 w35 hr32 w39 hr36 gr36 ⊢) <;> omega)⟩, by rw [ht]; exact hP, hD⟩, hS.F ht⟩) hS.2.2 dX12_hoursHere_61
